theorem zw3083 : Cond.methodLink "TemplateHouseModel" 539 ⟨"TemplateHouseModel", "packed", "(II)V"⟩ ∈ zT := zsub13 203 (by decide +kernel) (by decide +kernel)
theorem zw3091 : Cond.methodLink "TemplateHouseModel" 542 ⟨"TemplateHouseModel", "wholeText", "()I"⟩ ∈ zT := zsub13 211 (by decide +kernel) (by decide +kernel)
theorem zw3082 : Cond.code ⟨"TemplateHouseModel", "readBody", "()I"⟩ prog_15_method_31_code 5 (Option.some Jvm.ClassFile.FieldType.int) ∈ zT := zsub13 202 rfl rfl
theorem zw3081 : Cond.instanceMethod ⟨"TemplateHouseModel", "readBody", "()I"⟩ ∈ zT := zsub13 201 (by decide +kernel) (by decide +kernel)
theorem zwp251 : Cond.selects "TemplateHouseModel" ⟨"TemplateHouseModel", "readBody", "()I"⟩ ⟨"TemplateHouseModel", "readBody", "()I"⟩ ∈ zT := zin 251 (by decide +kernel) (by decide +kernel)
abbrev cX14_readBody : ByteArray := prog_15_method_31_code
abbrev yX14_readBody : MethodName := ⟨"TemplateHouseModel", "readBody", "()I"⟩
theorem dmX14_readBody : zDv yX14_readBody cX14_readBody 5 (some .int) 0 := ⟨⟨⟨by decide +kernel, by decide +kernel, by decide +kernel⟩, zw3082, zw14⟩, zw3081, zwp251⟩
theorem dX14_readBody_0 : decode cX14_readBody 0 = .ok (.aload_n 0, 1) := by decide +kernel
theorem dX14_readBody_1 : decode cX14_readBody 1 = .ok (.invokevirtual 308, 3) := by decide +kernel
theorem dX14_readBody_4 : decode cX14_readBody 4 = .ok (.aload_n 0, 1) := by decide +kernel
theorem dX14_readBody_5 : decode cX14_readBody 5 = .ok (.getfield 248, 3) := by decide +kernel
theorem dX14_readBody_8 : decode cX14_readBody 8 = .ok (.ifCond .eq 5, 3) := by decide +kernel
theorem dX14_readBody_13 : decode cX14_readBody 13 = .ok (.aload_n 0, 1) := by decide +kernel
theorem dX14_readBody_14 : decode cX14_readBody 14 = .ok (.getfield 274, 3) := by decide +kernel
theorem dX14_readBody_17 : decode cX14_readBody 17 = .ok (.istore_n 1, 1) := by decide +kernel
theorem dX14_readBody_18 : decode cX14_readBody 18 = .ok (.aload_n 0, 1) := by decide +kernel
theorem dX14_readBody_19 : decode cX14_readBody 19 = .ok (.iconst 0, 1) := by decide +kernel
theorem dX14_readBody_20 : decode cX14_readBody 20 = .ok (.putfield 533, 3) := by decide +kernel
theorem dX14_readBody_23 : decode cX14_readBody 23 = .ok (.aload_n 0, 1) := by decide +kernel
theorem dX14_readBody_24 : decode cX14_readBody 24 = .ok (.aload_n 0, 1) := by decide +kernel
theorem dX14_readBody_25 : decode cX14_readBody 25 = .ok (.getfield 274, 3) := by decide +kernel
theorem dX14_readBody_28 : decode cX14_readBody 28 = .ok (.invokevirtual 266, 3) := by decide +kernel
theorem dX14_readBody_31 : decode cX14_readBody 31 = .ok (.bipush 34, 2) := by decide +kernel
theorem dX14_readBody_33 : decode cX14_readBody 33 = .ok (.if_icmp .ne 37, 3) := by decide +kernel
theorem dX14_readBody_70 : decode cX14_readBody 70 = .ok (.aload_n 0, 1) := by decide +kernel
theorem dX14_readBody_71 : decode cX14_readBody 71 = .ok (.aload_n 0, 1) := by decide +kernel
theorem dX14_readBody_72 : decode cX14_readBody 72 = .ok (.getfield 274, 3) := by decide +kernel
theorem dX14_readBody_75 : decode cX14_readBody 75 = .ok (.invokevirtual 266, 3) := by decide +kernel
theorem dX14_readBody_78 : decode cX14_readBody 78 = .ok (.bipush 60, 2) := by decide +kernel
theorem dX14_readBody_80 : decode cX14_readBody 80 = .ok (.if_icmp .ne 205, 3) := by decide +kernel
theorem dX14_readBody_285 : decode cX14_readBody 285 = .ok (.aload_n 0, 1) := by decide +kernel
theorem dX14_readBody_286 : decode cX14_readBody 286 = .ok (.iconst 1, 1) := by decide +kernel
theorem dX14_readBody_287 : decode cX14_readBody 287 = .ok (.aload_n 0, 1) := by decide +kernel
theorem dX14_readBody_288 : decode cX14_readBody 288 = .ok (.getfield 274, 3) := by decide +kernel
theorem dX14_readBody_291 : decode cX14_readBody 291 = .ok (.invokevirtual 280, 3) := by decide +kernel
theorem dX14_readBody_294 : decode cX14_readBody 294 = .ok (.iconst 0, 1) := by decide +kernel
theorem dX14_readBody_295 : decode cX14_readBody 295 = .ok (.ireturn, 1) := by decide +kernel
theorem dX14_readBody_83 : decode cX14_readBody 83 = .ok (.aload_n 0, 1) := by decide +kernel
theorem dX14_readBody_84 : decode cX14_readBody 84 = .ok (.aload_n 0, 1) := by decide +kernel
theorem dX14_readBody_85 : decode cX14_readBody 85 = .ok (.getfield 274, 3) := by decide +kernel
theorem dX14_readBody_88 : decode cX14_readBody 88 = .ok (.iconst 1, 1) := by decide +kernel
theorem dX14_readBody_89 : decode cX14_readBody 89 = .ok (.iadd, 1) := by decide +kernel
theorem dX14_readBody_90 : decode cX14_readBody 90 = .ok (.invokevirtual 266, 3) := by decide +kernel
theorem dX14_readBody_93 : decode cX14_readBody 93 = .ok (.bipush 60, 2) := by decide +kernel
theorem dX14_readBody_95 : decode cX14_readBody 95 = .ok (.if_icmp .eq 18, 3) := by decide +kernel
theorem dX14_readBody_113 : decode cX14_readBody 113 = .ok (.aload_n 0, 1) := by decide +kernel
theorem dX14_readBody_114 : decode cX14_readBody 114 = .ok (.aload_n 0, 1) := by decide +kernel
theorem dX14_readBody_115 : decode cX14_readBody 115 = .ok (.getfield 274, 3) := by decide +kernel
theorem dX14_readBody_118 : decode cX14_readBody 118 = .ok (.iconst 1, 1) := by decide +kernel
theorem dX14_readBody_119 : decode cX14_readBody 119 = .ok (.iadd, 1) := by decide +kernel
theorem dX14_readBody_120 : decode cX14_readBody 120 = .ok (.invokevirtual 266, 3) := by decide +kernel
theorem dX14_readBody_123 : decode cX14_readBody 123 = .ok (.bipush 60, 2) := by decide +kernel
theorem dX14_readBody_125 : decode cX14_readBody 125 = .ok (.if_icmp .ne 7, 3) := by decide +kernel
theorem dX14_readBody_132 : decode cX14_readBody 132 = .ok (.iconst 0, 1) := by decide +kernel
theorem dX14_readBody_133 : decode cX14_readBody 133 = .ok (.istore_n 3, 1) := by decide +kernel
theorem dX14_readBody_134 : decode cX14_readBody 134 = .ok (.aload_n 0, 1) := by decide +kernel
theorem dX14_readBody_135 : decode cX14_readBody 135 = .ok (.getfield 274, 3) := by decide +kernel
theorem dX14_readBody_138 : decode cX14_readBody 138 = .ok (.iconst 2, 1) := by decide +kernel
theorem dX14_readBody_139 : decode cX14_readBody 139 = .ok (.iadd, 1) := by decide +kernel
theorem dX14_readBody_140 : decode cX14_readBody 140 = .ok (.istore_n 1, 1) := by decide +kernel
theorem dX14_readBody_141 : decode cX14_readBody 141 = .ok (.iload_n 1, 1) := by decide +kernel
theorem dX14_readBody_142 : decode cX14_readBody 142 = .ok (.istore_n 2, 1) := by decide +kernel
theorem dX14_readBody_143 : decode cX14_readBody 143 = .ok (.iload_n 2, 1) := by decide +kernel
theorem dX14_readBody_144 : decode cX14_readBody 144 = .ok (.aload_n 0, 1) := by decide +kernel
theorem dX14_readBody_145 : decode cX14_readBody 145 = .ok (.getfield 260, 3) := by decide +kernel
theorem dX14_readBody_148 : decode cX14_readBody 148 = .ok (.if_icmp .ge 40, 3) := by decide +kernel
theorem dX14_readBody_188 : decode cX14_readBody 188 = .ok (.iload_n 2, 1) := by decide +kernel
theorem dX14_readBody_189 : decode cX14_readBody 189 = .ok (.aload_n 0, 1) := by decide +kernel
theorem dX14_readBody_190 : decode cX14_readBody 190 = .ok (.getfield 260, 3) := by decide +kernel
theorem dX14_readBody_193 : decode cX14_readBody 193 = .ok (.if_icmp .lt 14, 3) := by decide +kernel
theorem dX14_readBody_207 : decode cX14_readBody 207 = .ok (.aload_n 0, 1) := by decide +kernel
theorem dX14_readBody_208 : decode cX14_readBody 208 = .ok (.iload_n 2, 1) := by decide +kernel
theorem dX14_readBody_209 : decode cX14_readBody 209 = .ok (.iconst 2, 1) := by decide +kernel
theorem dX14_readBody_210 : decode cX14_readBody 210 = .ok (.iadd, 1) := by decide +kernel
theorem dX14_readBody_211 : decode cX14_readBody 211 = .ok (.putfield 274, 3) := by decide +kernel
theorem dX14_readBody_214 : decode cX14_readBody 214 = .ok (.aload_n 0, 1) := by decide +kernel
theorem dX14_readBody_215 : decode cX14_readBody 215 = .ok (.iload_n 2, 1) := by decide +kernel
theorem dX14_readBody_216 : decode cX14_readBody 216 = .ok (.putfield 536, 3) := by decide +kernel
theorem dX14_readBody_219 : decode cX14_readBody 219 = .ok (.iload_n 3, 1) := by decide +kernel
theorem dX14_readBody_220 : decode cX14_readBody 220 = .ok (.ifCond .eq 51, 3) := by decide +kernel
theorem dX14_readBody_271 : decode cX14_readBody 271 = .ok (.aload_n 0, 1) := by decide +kernel
theorem dX14_readBody_272 : decode cX14_readBody 272 = .ok (.iload_n 1, 1) := by decide +kernel
theorem dX14_readBody_273 : decode cX14_readBody 273 = .ok (.iload_n 2, 1) := by decide +kernel
theorem dX14_readBody_274 : decode cX14_readBody 274 = .ok (.invokevirtual 539, 3) := by decide +kernel
theorem dX14_readBody_277 : decode cX14_readBody 277 = .ok (.aload_n 0, 1) := by decide +kernel
theorem dX14_readBody_278 : decode cX14_readBody 278 = .ok (.invokevirtual 542, 3) := by decide +kernel
theorem dX14_readBody_281 : decode cX14_readBody 281 = .ok (.ireturn, 1) := by decide +kernel
theorem dX14_readBody_223 : decode cX14_readBody 223 = .ok (.iload_n 2, 1) := by decide +kernel
theorem dX14_readBody_224 : decode cX14_readBody 224 = .ok (.iload_n 1, 1) := by decide +kernel
theorem dX14_readBody_225 : decode cX14_readBody 225 = .ok (.isub, 1) := by decide +kernel
theorem dX14_readBody_226 : decode cX14_readBody 226 = .ok (.istore 4, 2) := by decide +kernel
theorem dX14_readBody_228 : decode cX14_readBody 228 = .ok (.iload 4, 2) := by decide +kernel
theorem dX14_readBody_230 : decode cX14_readBody 230 = .ok (.ifCond .le 17, 3) := by decide +kernel
theorem dX14_readBody_247 : decode cX14_readBody 247 = .ok (.iload_n 2, 1) := by decide +kernel
theorem dX14_readBody_248 : decode cX14_readBody 248 = .ok (.iload_n 1, 1) := by decide +kernel
theorem dX14_readBody_249 : decode cX14_readBody 249 = .ok (.if_icmp .le 19, 3) := by decide +kernel
theorem dX14_readBody_268 : decode cX14_readBody 268 = .ok (.goto 14, 3) := by decide +kernel
theorem dX14_readBody_282 : decode cX14_readBody 282 = .ok (.goto 14, 3) := by decide +kernel
theorem dX14_readBody_296 : decode cX14_readBody 296 = .ok (.iload_n 1, 1) := by decide +kernel
theorem dX14_readBody_297 : decode cX14_readBody 297 = .ok (.istore_n 3, 1) := by decide +kernel
theorem dX14_readBody_298 : decode cX14_readBody 298 = .ok (.iload_n 3, 1) := by decide +kernel
theorem dX14_readBody_299 : decode cX14_readBody 299 = .ok (.iload_n 2, 1) := by decide +kernel
theorem dX14_readBody_300 : decode cX14_readBody 300 = .ok (.if_icmp .ge 20, 3) := by decide +kernel
theorem dX14_readBody_320 : decode cX14_readBody 320 = .ok (.aload_n 0, 1) := by decide +kernel
theorem dX14_readBody_321 : decode cX14_readBody 321 = .ok (.invokevirtual 542, 3) := by decide +kernel
theorem dX14_readBody_324 : decode cX14_readBody 324 = .ok (.ireturn, 1) := by decide +kernel
theorem dX14_readBody_303 : decode cX14_readBody 303 = .ok (.aload_n 0, 1) := by decide +kernel
theorem dX14_readBody_304 : decode cX14_readBody 304 = .ok (.aload_n 0, 1) := by decide +kernel
theorem dX14_readBody_305 : decode cX14_readBody 305 = .ok (.getfield 263, 3) := by decide +kernel
theorem dX14_readBody_308 : decode cX14_readBody 308 = .ok (.iload_n 3, 1) := by decide +kernel
theorem dX14_readBody_309 : decode cX14_readBody 309 = .ok (.baload, 1) := by decide +kernel
theorem dX14_readBody_310 : decode cX14_readBody 310 = .ok (.iload_n 3, 1) := by decide +kernel
theorem dX14_readBody_311 : decode cX14_readBody 311 = .ok (.invokevirtual 545, 3) := by decide +kernel
theorem dX14_readBody_314 : decode cX14_readBody 314 = .ok (.iinc 3 1, 3) := by decide +kernel
theorem dX14_readBody_317 : decode cX14_readBody 317 = .ok (.goto (-19), 3) := by decide +kernel
theorem dX14_readBody_252 : decode cX14_readBody 252 = .ok (.aload_n 0, 1) := by decide +kernel
theorem dX14_readBody_253 : decode cX14_readBody 253 = .ok (.getfield 263, 3) := by decide +kernel
theorem dX14_readBody_256 : decode cX14_readBody 256 = .ok (.iload_n 2, 1) := by decide +kernel
theorem dX14_readBody_257 : decode cX14_readBody 257 = .ok (.iconst 1, 1) := by decide +kernel
theorem dX14_readBody_258 : decode cX14_readBody 258 = .ok (.isub, 1) := by decide +kernel
theorem dX14_readBody_259 : decode cX14_readBody 259 = .ok (.baload, 1) := by decide +kernel
theorem dX14_readBody_260 : decode cX14_readBody 260 = .ok (.bipush 10, 2) := by decide +kernel
theorem dX14_readBody_262 : decode cX14_readBody 262 = .ok (.if_icmp .ne 6, 3) := by decide +kernel
theorem dX14_readBody_265 : decode cX14_readBody 265 = .ok (.iinc 2 (-1), 3) := by decide +kernel
theorem dX14_readBody_233 : decode cX14_readBody 233 = .ok (.aload_n 0, 1) := by decide +kernel
theorem dX14_readBody_234 : decode cX14_readBody 234 = .ok (.getfield 263, 3) := by decide +kernel
theorem dX14_readBody_237 : decode cX14_readBody 237 = .ok (.iload_n 1, 1) := by decide +kernel
theorem dX14_readBody_238 : decode cX14_readBody 238 = .ok (.baload, 1) := by decide +kernel
theorem dX14_readBody_239 : decode cX14_readBody 239 = .ok (.bipush 10, 2) := by decide +kernel
theorem dX14_readBody_241 : decode cX14_readBody 241 = .ok (.if_icmp .ne 6, 3) := by decide +kernel
theorem dX14_readBody_244 : decode cX14_readBody 244 = .ok (.iinc 1 1, 3) := by decide +kernel
theorem dX14_readBody_196 : decode cX14_readBody 196 = .ok (.aload_n 0, 1) := by decide +kernel
theorem dX14_readBody_197 : decode cX14_readBody 197 = .ok (.iconst 1, 1) := by decide +kernel
theorem dX14_readBody_198 : decode cX14_readBody 198 = .ok (.aload_n 0, 1) := by decide +kernel
theorem dX14_readBody_199 : decode cX14_readBody 199 = .ok (.getfield 260, 3) := by decide +kernel
theorem dX14_readBody_202 : decode cX14_readBody 202 = .ok (.invokevirtual 280, 3) := by decide +kernel
theorem dX14_readBody_205 : decode cX14_readBody 205 = .ok (.iconst 0, 1) := by decide +kernel
theorem dX14_readBody_206 : decode cX14_readBody 206 = .ok (.ireturn, 1) := by decide +kernel
theorem dX14_readBody_151 : decode cX14_readBody 151 = .ok (.aload_n 0, 1) := by decide +kernel
theorem dX14_readBody_152 : decode cX14_readBody 152 = .ok (.iload_n 2, 1) := by decide +kernel
theorem dX14_readBody_153 : decode cX14_readBody 153 = .ok (.invokevirtual 266, 3) := by decide +kernel
theorem dX14_readBody_156 : decode cX14_readBody 156 = .ok (.iload_n 3, 1) := by decide +kernel
theorem dX14_readBody_157 : decode cX14_readBody 157 = .ok (.ifCond .eq 8, 3) := by decide +kernel
theorem dX14_readBody_165 : decode cX14_readBody 165 = .ok (.bipush 37, 2) := by decide +kernel
theorem dX14_readBody_167 : decode cX14_readBody 167 = .ok (.if_icmp .ne 15, 3) := by decide +kernel
theorem dX14_readBody_182 : decode cX14_readBody 182 = .ok (.iinc 2 1, 3) := by decide +kernel
theorem dX14_readBody_185 : decode cX14_readBody 185 = .ok (.goto (-42), 3) := by decide +kernel
theorem dX14_readBody_170 : decode cX14_readBody 170 = .ok (.aload_n 0, 1) := by decide +kernel
theorem dX14_readBody_171 : decode cX14_readBody 171 = .ok (.iload_n 2, 1) := by decide +kernel
theorem dX14_readBody_172 : decode cX14_readBody 172 = .ok (.iconst 1, 1) := by decide +kernel
theorem dX14_readBody_173 : decode cX14_readBody 173 = .ok (.iadd, 1) := by decide +kernel
theorem dX14_readBody_174 : decode cX14_readBody 174 = .ok (.invokevirtual 266, 3) := by decide +kernel
theorem dX14_readBody_177 : decode cX14_readBody 177 = .ok (.bipush 62, 2) := by decide +kernel
theorem dX14_readBody_179 : decode cX14_readBody 179 = .ok (.if_icmp .eq 9, 3) := by decide +kernel
theorem dX14_readBody_160 : decode cX14_readBody 160 = .ok (.bipush 62, 2) := by decide +kernel
theorem dX14_readBody_162 : decode cX14_readBody 162 = .ok (.goto 5, 3) := by decide +kernel
theorem dX14_readBody_128 : decode cX14_readBody 128 = .ok (.iconst 1, 1) := by decide +kernel
theorem dX14_readBody_129 : decode cX14_readBody 129 = .ok (.goto 4, 3) := by decide +kernel
theorem dX14_readBody_98 : decode cX14_readBody 98 = .ok (.aload_n 0, 1) := by decide +kernel
theorem dX14_readBody_99 : decode cX14_readBody 99 = .ok (.aload_n 0, 1) := by decide +kernel
theorem dX14_readBody_100 : decode cX14_readBody 100 = .ok (.getfield 274, 3) := by decide +kernel
theorem dX14_readBody_103 : decode cX14_readBody 103 = .ok (.iconst 1, 1) := by decide +kernel
theorem dX14_readBody_104 : decode cX14_readBody 104 = .ok (.iadd, 1) := by decide +kernel
theorem dX14_readBody_105 : decode cX14_readBody 105 = .ok (.invokevirtual 266, 3) := by decide +kernel
theorem dX14_readBody_108 : decode cX14_readBody 108 = .ok (.bipush 37, 2) := by decide +kernel
theorem dX14_readBody_110 : decode cX14_readBody 110 = .ok (.if_icmp .ne 175, 3) := by decide +kernel
theorem dX14_readBody_36 : decode cX14_readBody 36 = .ok (.aload_n 0, 1) := by decide +kernel
theorem dX14_readBody_37 : decode cX14_readBody 37 = .ok (.invokevirtual 425, 3) := by decide +kernel
theorem dX14_readBody_40 : decode cX14_readBody 40 = .ok (.aload_n 0, 1) := by decide +kernel
theorem dX14_readBody_41 : decode cX14_readBody 41 = .ok (.getfield 248, 3) := by decide +kernel
theorem dX14_readBody_44 : decode cX14_readBody 44 = .ok (.ifCond .eq 5, 3) := by decide +kernel
theorem dX14_readBody_49 : decode cX14_readBody 49 = .ok (.aload_n 0, 1) := by decide +kernel
theorem dX14_readBody_50 : decode cX14_readBody 50 = .ok (.getfield 341, 3) := by decide +kernel
theorem dX14_readBody_53 : decode cX14_readBody 53 = .ok (.istore_n 1, 1) := by decide +kernel
theorem dX14_readBody_54 : decode cX14_readBody 54 = .ok (.aload_n 0, 1) := by decide +kernel
theorem dX14_readBody_55 : decode cX14_readBody 55 = .ok (.getfield 344, 3) := by decide +kernel
theorem dX14_readBody_58 : decode cX14_readBody 58 = .ok (.istore_n 2, 1) := by decide +kernel
theorem dX14_readBody_59 : decode cX14_readBody 59 = .ok (.aload_n 0, 1) := by decide +kernel
theorem dX14_readBody_60 : decode cX14_readBody 60 = .ok (.aload_n 0, 1) := by decide +kernel
theorem dX14_readBody_61 : decode cX14_readBody 61 = .ok (.getfield 344, 3) := by decide +kernel
theorem dX14_readBody_64 : decode cX14_readBody 64 = .ok (.putfield 536, 3) := by decide +kernel
theorem dX14_readBody_67 : decode cX14_readBody 67 = .ok (.goto 229, 3) := by decide +kernel
theorem dX14_readBody_47 : decode cX14_readBody 47 = .ok (.iconst 0, 1) := by decide +kernel
theorem dX14_readBody_48 : decode cX14_readBody 48 = .ok (.ireturn, 1) := by decide +kernel
theorem dX14_readBody_11 : decode cX14_readBody 11 = .ok (.iconst 0, 1) := by decide +kernel
theorem dX14_readBody_12 : decode cX14_readBody 12 = .ok (.ireturn, 1) := by decide +kernel
def pre_X14_readBody (σ : rS) (gg : Nat) (U : Int) (g : Nat → Int → Int) : Prop := rR σ 7 = gg ∧ rgk gg ∧ FPZ σ gg U ∧ rNMp σ ∧ PNp σ ∧ rfk (rR σ 15) ∧ Im (fz σ = 0) (GS σ gg g) ∧ fz σ = 0
def post_X14_readBody (σ : rS) (gg : Nat) (U : Int) (g : Nat → Int → Int) (r : Int) (σ' : rS) : Prop := FQZ σ σ' gg ∧ rNMp σ' ∧ PNp σ' ∧ 0 ≤ r ∧ r < (rF σ' gg 7) ∧ Im (fz σ' = 0) (RG (RT σ) σ' gg 0) ∧ ∃ h, Im (fz σ' = 0) (GS σ' gg h ∧ GK g h (rF σ gg 7) (rF σ' gg 7) 0 ∧ NR σ' gg h 11 r ((rF σ gg 7)) 0 9000 0 ∧ ok1)
def inv_X14_readBody_113 (σ : rS) (gg : Nat) (U : Int) (g : Nat → Int → Int)  (s : rS)  : Prop := (rF s gg 7) = (rF σ gg 7) ∧ (rF s gg 9) = (rF σ gg 9) ∧ (rF s gg 12) = (rF σ gg 12) ∧ (rF s gg 38) = (rF σ gg 38) ∧ (rF s gg 32) = (rF σ gg 32) ∧ (rF s 0 32) = (rF σ 0 32) ∧ (rF s 0 33) = (rF σ 0 33) ∧ 0 ≤ (rF s 0 38) ∧ 0 ≤ (rF s 0 39) ∧ rNMp s ∧ PNp s ∧ fz s = 0 ∧ (rF σ 0 17) ≤ (rF s 0 17) ∧ (rF s 0 17) + 1 < (rF σ 0 16) ∧ (rF s 0 28) = 0 ∧ Im (fz s = 0) (RG (RT σ) s gg 0) ∧ ∃ h, Im (fz s = 0) (GS s gg h ∧ GK g h (rF σ gg 7) (rF s gg 7) 0 ∧ ok1)
def inv_X14_readBody_188 (σ : rS) (gg : Nat) (U : Int) (g : Nat → Int → Int)  (s : rS) (fr_ : Int) (en : Int) (big : Int) : Prop := (rF s gg 7) = (rF σ gg 7) ∧ (rF s gg 9) = (rF σ gg 9) ∧ (rF s gg 12) = (rF σ gg 12) ∧ (rF s gg 38) = (rF σ gg 38) ∧ (rF s gg 32) = (rF σ gg 32) ∧ (rF s 0 32) = (rF σ 0 32) ∧ (rF s 0 33) = (rF σ 0 33) ∧ 0 ≤ (rF s 0 38) ∧ 0 ≤ (rF s 0 39) ∧ rNMp s ∧ PNp s ∧ fz s = 0 ∧ (rF σ 0 17) ≤ (rF s 0 17) ∧ (rF s 0 17) + 1 < (rF σ 0 16) ∧ (rF s 0 28) = 0 ∧ fr_ = (rF s 0 17) + 2 ∧ fr_ ≤ en ∧ (en = (rF σ 0 16) ∨ en + 2 ≤ (rF σ 0 16)) ∧ (big = 0 ∨ big = 1) ∧ Im (fz s = 0) (RG (RT σ) s gg 0) ∧ ∃ h, Im (fz s = 0) (GS s gg h ∧ GK g h (rF σ gg 7) (rF s gg 7) 0 ∧ ok1)
def inv_X14_readBody_247 (σ : rS) (gg : Nat) (U : Int) (g : Nat → Int → Int)  (s : rS) (fr_ : Int) (en : Int) : Prop := (rF s gg 7) = (rF σ gg 7) ∧ (rF s gg 9) = (rF σ gg 9) ∧ (rF s gg 12) = (rF σ gg 12) ∧ (rF s gg 38) = (rF σ gg 38) ∧ (rF s gg 32) = (rF σ gg 32) ∧ (rF s 0 32) = (rF σ 0 32) ∧ (rF s 0 33) = (rF σ 0 33) ∧ 0 ≤ (rF s 0 38) ∧ 0 ≤ (rF s 0 39) ∧ rNMp s ∧ PNp s ∧ fz s = 0 ∧ (rF s 0 28) = 0 ∧ (rF σ 0 17) + 2 ≤ fr_ ∧ en + 2 ≤ (rF s 0 17) ∧ (rF s 0 17) ≤ (rF σ 0 16) ∧ 0 ≤ (rF s 0 30) ∧ (rF s 0 30) ≤ 4000 ∧ fr_ ≤ en ∧ Im (fz s = 0) (RG (RT σ) s gg 0) ∧ ∃ h, Im (fz s = 0) (GS s gg h ∧ GK g h (rF σ gg 7) (rF s gg 7) 0 ∧ ok1)
def inv_X14_readBody_268 (σ : rS) (gg : Nat) (U : Int) (g : Nat → Int → Int)  (s : rS) (fr_ : Int) (en : Int) : Prop := (rF s gg 7) = (rF σ gg 7) ∧ (rF s gg 9) = (rF σ gg 9) ∧ (rF s gg 12) = (rF σ gg 12) ∧ (rF s gg 38) = (rF σ gg 38) ∧ (rF s gg 32) = (rF σ gg 32) ∧ (rF s 0 32) = (rF σ 0 32) ∧ (rF s 0 33) = (rF σ 0 33) ∧ 0 ≤ (rF s 0 38) ∧ 0 ≤ (rF s 0 39) ∧ rNMp s ∧ PNp s ∧ fz s = 0 ∧ (rF s 0 28) = 0 ∧ (rF σ 0 17) + 2 ≤ fr_ ∧ en + 2 ≤ (rF s 0 17) ∧ (rF s 0 17) ≤ (rF σ 0 16) ∧ 0 ≤ (rF s 0 30) ∧ (rF s 0 30) ≤ 4000 ∧ fr_ ≤ en ∧ Im (fz s = 0) (RG (RT σ) s gg 0) ∧ ∃ h, Im (fz s = 0) (GS s gg h ∧ GK g h (rF σ gg 7) (rF s gg 7) 0 ∧ ok1)
def inv_X14_readBody_143 (σ : rS) (gg : Nat) (U : Int) (g : Nat → Int → Int)  (s : rS) (fr_ : Int) (en : Int) (big : Int) : Prop := (rF s gg 7) = (rF σ gg 7) ∧ (rF s gg 9) = (rF σ gg 9) ∧ (rF s gg 12) = (rF σ gg 12) ∧ (rF s gg 38) = (rF σ gg 38) ∧ (rF s gg 32) = (rF σ gg 32) ∧ (rF s 0 32) = (rF σ 0 32) ∧ (rF s 0 33) = (rF σ 0 33) ∧ 0 ≤ (rF s 0 38) ∧ 0 ≤ (rF s 0 39) ∧ rNMp s ∧ PNp s ∧ fz s = 0 ∧ (rF σ 0 17) ≤ (rF s 0 17) ∧ (rF s 0 17) + 1 < (rF σ 0 16) ∧ (rF s 0 28) = 0 ∧ fr_ = (rF s 0 17) + 2 ∧ fr_ ≤ en ∧ en ≤ (rF σ 0 16) ∧ (big = 0 ∨ big = 1) ∧ Im (fz s = 0) (RG (RT σ) s gg 0) ∧ ∃ h, Im (fz s = 0) (GS s gg h ∧ GK g h (rF σ gg 7) (rF s gg 7) 0 ∧ ok1)
def mu_X14_readBody_143 (σ : rS) (gg : Nat) (U : Int) (g : Nat → Int → Int) (s : rS) (fr_ : Int) (en : Int) (big : Int) : Nat := (1 + ((rF σ 0 16) - en).toNat)
def inv_X14_readBody_298 (σ : rS) (gg : Nat) (U : Int) (g : Nat → Int → Int)  (s : rS) (en : Int) (k : Int) : Prop := (rF s gg 7) = (rF σ gg 7) ∧ (rF s gg 9) = (rF σ gg 9) ∧ (rF s gg 12) = (rF σ gg 12) ∧ (rF s gg 38) = (rF σ gg 38) ∧ (rF s gg 32) = (rF σ gg 32) ∧ (rF s 0 32) = (rF σ 0 32) ∧ (rF s 0 33) = (rF σ 0 33) ∧ 0 ≤ (rF s 0 38) ∧ 0 ≤ (rF s 0 39) ∧ rNMp s ∧ PNp s ∧ fz s = 0 ∧ 0 ≤ (rF s 0 28) ∧ (rF s 0 28) + (rF σ 0 17) + 1 ≤ k ∧ (k ≤ en ∨ (rF s 0 28) = 0) ∧ (rF σ 0 17) + 1 ≤ k ∧ en + 1 ≤ (rF s 0 17) ∧ (rF s 0 17) ≤ (rF σ 0 16) ∧ (rF σ 0 17) ≤ (rF s 0 17) ∧ k ≤ (rF s 0 17) ∧ (rF s 0 28) + (rF σ 0 17) + 2 ≤ (rF s 0 17) ∧ 0 ≤ (rF s 0 30) ∧ (rF s 0 30) ≤ 4000 ∧ TPqp s ∧ Im (fz s = 0) (RG (RT σ) s gg 0) ∧ ∃ h, Im (fz s = 0) (GS s gg h ∧ GK g h (rF σ gg 7) (rF s gg 7) 0 ∧ ok1)
def mu_X14_readBody_298 (σ : rS) (gg : Nat) (U : Int) (g : Nat → Int → Int) (s : rS) (en : Int) (k : Int) : Nat := (1 + (4001 - k).toNat)
def VC_X14_readBody (σ : rS) (gg : Nat) (U : Int) (g : Nat → Int → Int) (Q : Int → rS → Prop) : Prop := rgk (rR σ 7) ∧ pre_X14_skip σ ∧ (∀ (s1 : rS), rWF s1 → (rNMp σ → rNMp s1) → (PNp σ → PNp s1) → (CCp σ → CCp s1) → rR s1 7 = rR σ 7 → rR s1 15 = rR σ 15 → rF s1 0 14 = rF σ 0 14 → rF s1 0 16 = rF σ 0 16 → rF s1 0 19 = rF σ 0 19 → rF s1 0 21 = rF σ 0 21 → rF s1 0 22 = rF σ 0 22 → rF s1 0 23 = rF σ 0 23 → rF s1 0 28 = rF σ 0 28 → rF s1 0 29 = rF σ 0 29 → rF s1 0 30 = rF σ 0 30 → rF s1 0 31 = rF σ 0 31 → rF s1 0 32 = rF σ 0 32 → rF s1 0 33 = rF σ 0 33 → rF s1 0 38 = rF σ 0 38 → rF s1 0 39 = rF σ 0 39 → (∀ i, rA s1 1027 i = rA σ 1027 i) → (∀ i, rA s1 1034 i = rA σ 1034 i) → (∀ i, rA s1 1035 i = rA σ 1035 i) → (∀ i, rA s1 1040 i = rA σ 1040 i) → rF s1 (rR σ 7) 7 = rF σ (rR σ 7) 7 → rF s1 (rR σ 7) 9 = rF σ (rR σ 7) 9 → rF s1 (rR σ 7) 12 = rF σ (rR σ 7) 12 → rF s1 (rR σ 7) 32 = rF σ (rR σ 7) 32 → rF s1 (rR σ 7) 38 = rF σ (rR σ 7) 38 → (∀ i, rA s1 (1000 * ((rR σ 7) + 1) + 10) i = rA σ (1000 * ((rR σ 7) + 1) + 10) i) → (∀ i, rA s1 (1000 * ((rR σ 7) + 1) + 11) i = rA σ (1000 * ((rR σ 7) + 1) + 11) i) → RG σ s1 (rR σ 7) 0 → post_X14_skip σ s1 → (rng (rF s1 0 10) → (((rF s1 0 10) = 0 → (rng (rF s1 0 17) → pre_X14_fc (sF s1 0 28 0) (rF s1 0 17) ∧ (∀ (v28 : Int), rng v28 → post_X14_fc (sF s1 0 28 0) (rF s1 0 17) v28 → ((¬ v28 = 34 → pre_X14_fc (sF s1 0 28 0) (rF s1 0 17) ∧ (∀ (v75 : Int), rng v75 → post_X14_fc (sF s1 0 28 0) (rF s1 0 17) v75 → ((¬ v75 = 60 → pre_X14_bad (sF s1 0 28 0) 1 (rF s1 0 17) ∧ (∀ (s291 : rS), rWF s291 → (rNMp (sF s1 0 28 0) → rNMp s291) → (PNp (sF s1 0 28 0) → PNp s291) → (CCp (sF s1 0 28 0) → CCp s291) → rR s291 7 = rR (sF s1 0 28 0) 7 → rR s291 15 = rR (sF s1 0 28 0) 15 → rF s291 0 14 = rF (sF s1 0 28 0) 0 14 → rF s291 0 16 = rF (sF s1 0 28 0) 0 16 → rF s291 0 17 = rF (sF s1 0 28 0) 0 17 → rF s291 0 19 = rF (sF s1 0 28 0) 0 19 → rF s291 0 21 = rF (sF s1 0 28 0) 0 21 → rF s291 0 22 = rF (sF s1 0 28 0) 0 22 → rF s291 0 23 = rF (sF s1 0 28 0) 0 23 → rF s291 0 28 = rF (sF s1 0 28 0) 0 28 → rF s291 0 29 = rF (sF s1 0 28 0) 0 29 → rF s291 0 30 = rF (sF s1 0 28 0) 0 30 → rF s291 0 31 = rF (sF s1 0 28 0) 0 31 → rF s291 0 32 = rF (sF s1 0 28 0) 0 32 → rF s291 0 33 = rF (sF s1 0 28 0) 0 33 → rF s291 0 38 = rF (sF s1 0 28 0) 0 38 → rF s291 0 39 = rF (sF s1 0 28 0) 0 39 → (∀ i, rA s291 1027 i = rA (sF s1 0 28 0) 1027 i) → (∀ i, rA s291 1034 i = rA (sF s1 0 28 0) 1034 i) → (∀ i, rA s291 1035 i = rA (sF s1 0 28 0) 1035 i) → (∀ i, rA s291 1040 i = rA (sF s1 0 28 0) 1040 i) → rF s291 (rR σ 7) 7 = rF (sF s1 0 28 0) (rR σ 7) 7 → rF s291 (rR σ 7) 9 = rF (sF s1 0 28 0) (rR σ 7) 9 → rF s291 (rR σ 7) 12 = rF (sF s1 0 28 0) (rR σ 7) 12 → rF s291 (rR σ 7) 32 = rF (sF s1 0 28 0) (rR σ 7) 32 → rF s291 (rR σ 7) 38 = rF (sF s1 0 28 0) (rR σ 7) 38 → (∀ i, rA s291 (1000 * ((rR σ 7) + 1) + 10) i = rA (sF s1 0 28 0) (1000 * ((rR σ 7) + 1) + 10) i) → (∀ i, rA s291 (1000 * ((rR σ 7) + 1) + 11) i = rA (sF s1 0 28 0) (1000 * ((rR σ 7) + 1) + 11) i) → RG (sF s1 0 28 0) s291 (rR σ 7) 0 → post_X14_bad (sF s1 0 28 0) 1 (rF s1 0 17) s291 → Q 0 s291)) ∧ (v75 = 60 → rng ((rF s1 0 17) + 1) ∧ pre_X14_fc (sF s1 0 28 0) ((rF s1 0 17) + 1) ∧ (∀ (v90 : Int), rng v90 → post_X14_fc (sF s1 0 28 0) ((rF s1 0 17) + 1) v90 → ((v90 = 60 → (inv_X14_readBody_113 σ gg U g (sF s1 0 28 0))) ∧ (¬ v90 = 60 → pre_X14_fc (sF s1 0 28 0) ((rF s1 0 17) + 1) ∧ (∀ (v105 : Int), rng v105 → post_X14_fc (sF s1 0 28 0) ((rF s1 0 17) + 1) v105 → ((¬ v105 = 37 → pre_X14_bad (sF s1 0 28 0) 1 (rF s1 0 17) ∧ (∀ (s291 : rS), rWF s291 → (rNMp (sF s1 0 28 0) → rNMp s291) → (PNp (sF s1 0 28 0) → PNp s291) → (CCp (sF s1 0 28 0) → CCp s291) → rR s291 7 = rR (sF s1 0 28 0) 7 → rR s291 15 = rR (sF s1 0 28 0) 15 → rF s291 0 14 = rF (sF s1 0 28 0) 0 14 → rF s291 0 16 = rF (sF s1 0 28 0) 0 16 → rF s291 0 17 = rF (sF s1 0 28 0) 0 17 → rF s291 0 19 = rF (sF s1 0 28 0) 0 19 → rF s291 0 21 = rF (sF s1 0 28 0) 0 21 → rF s291 0 22 = rF (sF s1 0 28 0) 0 22 → rF s291 0 23 = rF (sF s1 0 28 0) 0 23 → rF s291 0 28 = rF (sF s1 0 28 0) 0 28 → rF s291 0 29 = rF (sF s1 0 28 0) 0 29 → rF s291 0 30 = rF (sF s1 0 28 0) 0 30 → rF s291 0 31 = rF (sF s1 0 28 0) 0 31 → rF s291 0 32 = rF (sF s1 0 28 0) 0 32 → rF s291 0 33 = rF (sF s1 0 28 0) 0 33 → rF s291 0 38 = rF (sF s1 0 28 0) 0 38 → rF s291 0 39 = rF (sF s1 0 28 0) 0 39 → (∀ i, rA s291 1027 i = rA (sF s1 0 28 0) 1027 i) → (∀ i, rA s291 1034 i = rA (sF s1 0 28 0) 1034 i) → (∀ i, rA s291 1035 i = rA (sF s1 0 28 0) 1035 i) → (∀ i, rA s291 1040 i = rA (sF s1 0 28 0) 1040 i) → rF s291 (rR σ 7) 7 = rF (sF s1 0 28 0) (rR σ 7) 7 → rF s291 (rR σ 7) 9 = rF (sF s1 0 28 0) (rR σ 7) 9 → rF s291 (rR σ 7) 12 = rF (sF s1 0 28 0) (rR σ 7) 12 → rF s291 (rR σ 7) 32 = rF (sF s1 0 28 0) (rR σ 7) 32 → rF s291 (rR σ 7) 38 = rF (sF s1 0 28 0) (rR σ 7) 38 → (∀ i, rA s291 (1000 * ((rR σ 7) + 1) + 10) i = rA (sF s1 0 28 0) (1000 * ((rR σ 7) + 1) + 10) i) → (∀ i, rA s291 (1000 * ((rR σ 7) + 1) + 11) i = rA (sF s1 0 28 0) (1000 * ((rR σ 7) + 1) + 11) i) → RG (sF s1 0 28 0) s291 (rR σ 7) 0 → post_X14_bad (sF s1 0 28 0) 1 (rF s1 0 17) s291 → Q 0 s291)) ∧ (v105 = 37 → (inv_X14_readBody_113 σ gg U g (sF s1 0 28 0)))))))))))) ∧ (v28 = 34 → pre_X14_fileString_f (sF s1 0 28 0) ∧ (∀ (s37 : rS), rWF s37 → (rNMp (sF s1 0 28 0) → rNMp s37) → (PNp (sF s1 0 28 0) → PNp s37) → (CCp (sF s1 0 28 0) → CCp s37) → rR s37 7 = rR (sF s1 0 28 0) 7 → rR s37 15 = rR (sF s1 0 28 0) 15 → rF s37 0 14 = rF (sF s1 0 28 0) 0 14 → rF s37 0 16 = rF (sF s1 0 28 0) 0 16 → rF s37 0 19 = rF (sF s1 0 28 0) 0 19 → rF s37 0 28 = rF (sF s1 0 28 0) 0 28 → rF s37 0 29 = rF (sF s1 0 28 0) 0 29 → rF s37 0 30 = rF (sF s1 0 28 0) 0 30 → rF s37 0 31 = rF (sF s1 0 28 0) 0 31 → rF s37 0 32 = rF (sF s1 0 28 0) 0 32 → rF s37 0 33 = rF (sF s1 0 28 0) 0 33 → rF s37 0 38 = rF (sF s1 0 28 0) 0 38 → rF s37 0 39 = rF (sF s1 0 28 0) 0 39 → (∀ i, rA s37 1027 i = rA (sF s1 0 28 0) 1027 i) → (∀ i, rA s37 1034 i = rA (sF s1 0 28 0) 1034 i) → (∀ i, rA s37 1035 i = rA (sF s1 0 28 0) 1035 i) → (∀ i, rA s37 1040 i = rA (sF s1 0 28 0) 1040 i) → rF s37 (rR σ 7) 7 = rF (sF s1 0 28 0) (rR σ 7) 7 → rF s37 (rR σ 7) 9 = rF (sF s1 0 28 0) (rR σ 7) 9 → rF s37 (rR σ 7) 12 = rF (sF s1 0 28 0) (rR σ 7) 12 → rF s37 (rR σ 7) 32 = rF (sF s1 0 28 0) (rR σ 7) 32 → rF s37 (rR σ 7) 38 = rF (sF s1 0 28 0) (rR σ 7) 38 → (∀ i, rA s37 (1000 * ((rR σ 7) + 1) + 10) i = rA (sF s1 0 28 0) (1000 * ((rR σ 7) + 1) + 10) i) → (∀ i, rA s37 (1000 * ((rR σ 7) + 1) + 11) i = rA (sF s1 0 28 0) (1000 * ((rR σ 7) + 1) + 11) i) → RG (sF s1 0 28 0) s37 (rR σ 7) 0 → post_X14_fileString_f (sF s1 0 28 0) s37 → (rng (rF s37 0 10) → (((rF s37 0 10) = 0 → (rng (rF s37 0 22) → (rng (rF s37 0 23) → (inv_X14_readBody_298 σ gg U g (sF s37 0 30 (rF s37 0 23)) (rF s37 0 23) (rF s37 0 22))))) ∧ (¬ (rF s37 0 10) = 0 → Q 0 s37))))))))) ∧ (¬ (rF s1 0 10) = 0 → Q 0 s1))))
def VC_X14_readBody_298 (σ : rS) (gg : Nat) (U : Int) (g : Nat → Int → Int) (Q : Int → rS → Prop) : Prop := ∀ (s298 : rS) (y298_2 : Int) (y298_3 : Int), rWF s298 → rng y298_2 → rng y298_3 → rR s298 7 = rR σ 7 → rR s298 15 = rR σ 15 → rF s298 0 14 = rF σ 0 14 → rF s298 0 16 = rF σ 0 16 → rF s298 0 19 = rF σ 0 19 → rF s298 0 32 = rF σ 0 32 → rF s298 0 33 = rF σ 0 33 → inv_X14_readBody_298 σ gg U g s298 y298_2 y298_3 → (((y298_2 ≤ y298_3 → ∃ (g25 : Nat → Int → Int), pre_X14_wholeText s298 gg g25 ∧ (∀ (v321 : Int) (s321 : rS), rng v321 → rWF s321 → (CCp s298 → CCp s321) → rR s321 7 = rR s298 7 → rR s321 15 = rR s298 15 → rF s321 0 14 = rF s298 0 14 → rF s321 0 16 = rF s298 0 16 → rF s321 0 17 = rF s298 0 17 → rF s321 0 19 = rF s298 0 19 → rF s321 0 21 = rF s298 0 21 → rF s321 0 22 = rF s298 0 22 → rF s321 0 23 = rF s298 0 23 → rF s321 0 28 = rF s298 0 28 → rF s321 0 30 = rF s298 0 30 → rF s321 0 32 = rF s298 0 32 → rF s321 0 33 = rF s298 0 33 → (∀ i, rA s321 1027 i = rA s298 1027 i) → post_X14_wholeText s298 gg g25 v321 s321 → Q v321 s321)) ∧ (¬ y298_2 ≤ y298_3 → rfk (rR s298 15) ∧ (0 ≤ y298_3 ∧ y298_3 < 4000) ∧ (rng (rA s298 (rR s298 15) y298_3) → pre_X14_addByte_f s298 (rA s298 (rR s298 15) y298_3) y298_3 ∧ (∀ (s311 : rS), rWF s311 → (rNMp s298 → rNMp s311) → (PNp s298 → PNp s311) → rR s311 7 = rR s298 7 → rR s311 15 = rR s298 15 → rF s311 0 10 = rF s298 0 10 → rF s311 0 14 = rF s298 0 14 → rF s311 0 16 = rF s298 0 16 → rF s311 0 17 = rF s298 0 17 → rF s311 0 19 = rF s298 0 19 → rF s311 0 21 = rF s298 0 21 → rF s311 0 22 = rF s298 0 22 → rF s311 0 23 = rF s298 0 23 → rF s311 0 29 = rF s298 0 29 → rF s311 0 30 = rF s298 0 30 → rF s311 0 31 = rF s298 0 31 → rF s311 0 32 = rF s298 0 32 → rF s311 0 33 = rF s298 0 33 → rF s311 0 38 = rF s298 0 38 → rF s311 0 39 = rF s298 0 39 → (∀ i, rA s311 1034 i = rA s298 1034 i) → (∀ i, rA s311 1035 i = rA s298 1035 i) → (∀ i, rA s311 1040 i = rA s298 1040 i) → rF s311 (rR σ 7) 7 = rF s298 (rR σ 7) 7 → rF s311 (rR σ 7) 9 = rF s298 (rR σ 7) 9 → rF s311 (rR σ 7) 12 = rF s298 (rR σ 7) 12 → rF s311 (rR σ 7) 32 = rF s298 (rR σ 7) 32 → rF s311 (rR σ 7) 38 = rF s298 (rR σ 7) 38 → (∀ i, rA s311 (1000 * ((rR σ 7) + 1) + 10) i = rA s298 (1000 * ((rR σ 7) + 1) + 10) i) → (∀ i, rA s311 (1000 * ((rR σ 7) + 1) + 11) i = rA s298 (1000 * ((rR σ 7) + 1) + 11) i) → fz s311 = fz s298 → RG s298 s311 (rR σ 7) 0 → post_X14_addByte_f s298 (rA s298 (rR s298 15) y298_3) y298_3 s311 → rng (y298_3 + 1) ∧ (inv_X14_readBody_298 σ gg U g s311 y298_2 (y298_3 + 1) ∧ (mu_X14_readBody_298 σ gg U g s311 y298_2 (y298_3 + 1)) < (mu_X14_readBody_298 σ gg U g s298 y298_2 y298_3)))))))
def VC_X14_readBody_298m (σ : rS) (gg : Nat) (U : Int) (g : Nat → Int → Int) : Prop := ∀ (s298 : rS) (y298_2 : Int) (y298_3 : Int), rWF s298 → rng y298_2 → rng y298_3 → rR s298 7 = rR σ 7 → rR s298 15 = rR σ 15 → rF s298 0 14 = rF σ 0 14 → rF s298 0 16 = rF σ 0 16 → rF s298 0 19 = rF σ 0 19 → rF s298 0 32 = rF σ 0 32 → rF s298 0 33 = rF σ 0 33 → inv_X14_readBody_298 σ gg U g s298 y298_2 y298_3 → 0 < (mu_X14_readBody_298 σ gg U g s298 y298_2 y298_3)
def VC_X14_readBody_268 (σ : rS) (gg : Nat) (U : Int) (g : Nat → Int → Int) (Q : Int → rS → Prop) : Prop := ∀ (s268 : rS) (y268_1 : Int) (y268_2 : Int), rWF s268 → rng y268_1 → rng y268_2 → rR s268 7 = rR σ 7 → rR s268 15 = rR σ 15 → rF s268 0 14 = rF σ 0 14 → rF s268 0 16 = rF σ 0 16 → rF s268 0 19 = rF σ 0 19 → rF s268 0 32 = rF σ 0 32 → rF s268 0 33 = rF σ 0 33 → inv_X14_readBody_268 σ gg U g s268 y268_1 y268_2 → ((inv_X14_readBody_298 σ gg U g s268 y268_2 y268_1))
def VC_X14_readBody_247 (σ : rS) (gg : Nat) (U : Int) (g : Nat → Int → Int) (Q : Int → rS → Prop) : Prop := ∀ (s247 : rS) (y247_1 : Int) (y247_2 : Int), rWF s247 → rng y247_1 → rng y247_2 → rR s247 7 = rR σ 7 → rR s247 15 = rR σ 15 → rF s247 0 14 = rF σ 0 14 → rF s247 0 16 = rF σ 0 16 → rF s247 0 19 = rF σ 0 19 → rF s247 0 32 = rF σ 0 32 → rF s247 0 33 = rF σ 0 33 → inv_X14_readBody_247 σ gg U g s247 y247_1 y247_2 → (((y247_2 ≤ y247_1 → (inv_X14_readBody_268 σ gg U g s247 y247_1 y247_2)) ∧ (¬ y247_2 ≤ y247_1 → rfk (rR s247 15) ∧ (0 ≤ (y247_2 - 1) ∧ (y247_2 - 1) < 4000) ∧ (rng (rA s247 (rR s247 15) (y247_2 - 1)) → ((¬ (rA s247 (rR s247 15) (y247_2 - 1)) = 10 → (inv_X14_readBody_268 σ gg U g s247 y247_1 y247_2)) ∧ ((rA s247 (rR s247 15) (y247_2 - 1)) = 10 → rng (y247_2 + (-1)) ∧ (inv_X14_readBody_268 σ gg U g s247 y247_1 (y247_2 + (-1)))))))))
def VC_X14_readBody_188 (σ : rS) (gg : Nat) (U : Int) (g : Nat → Int → Int) (Q : Int → rS → Prop) : Prop := ∀ (s188 : rS) (y188_1 : Int) (y188_2 : Int) (y188_3 : Int), rWF s188 → rng y188_1 → rng y188_2 → rng y188_3 → rR s188 7 = rR σ 7 → rR s188 15 = rR σ 15 → rF s188 0 14 = rF σ 0 14 → rF s188 0 16 = rF σ 0 16 → rF s188 0 19 = rF σ 0 19 → rF s188 0 32 = rF σ 0 32 → rF s188 0 33 = rF σ 0 33 → inv_X14_readBody_188 σ gg U g s188 y188_1 y188_2 y188_3 → ((rng (rF s188 0 16) → ((y188_2 < (rF s188 0 16) → rng (y188_2 + 2) ∧ ((y188_3 = 0 → pre_X14_packed_f (sF (sF s188 0 17 (y188_2 + 2)) 0 30 y188_2) y188_1 y188_2 ∧ (∀ (s274 : rS), rWF s274 → (rNMp (sF (sF s188 0 17 (y188_2 + 2)) 0 30 y188_2) → rNMp s274) → (PNp (sF (sF s188 0 17 (y188_2 + 2)) 0 30 y188_2) → PNp s274) → rR s274 7 = rR (sF (sF s188 0 17 (y188_2 + 2)) 0 30 y188_2) 7 → rR s274 15 = rR (sF (sF s188 0 17 (y188_2 + 2)) 0 30 y188_2) 15 → rF s274 0 10 = rF (sF (sF s188 0 17 (y188_2 + 2)) 0 30 y188_2) 0 10 → rF s274 0 14 = rF (sF (sF s188 0 17 (y188_2 + 2)) 0 30 y188_2) 0 14 → rF s274 0 16 = rF (sF (sF s188 0 17 (y188_2 + 2)) 0 30 y188_2) 0 16 → rF s274 0 17 = rF (sF (sF s188 0 17 (y188_2 + 2)) 0 30 y188_2) 0 17 → rF s274 0 19 = rF (sF (sF s188 0 17 (y188_2 + 2)) 0 30 y188_2) 0 19 → rF s274 0 21 = rF (sF (sF s188 0 17 (y188_2 + 2)) 0 30 y188_2) 0 21 → rF s274 0 22 = rF (sF (sF s188 0 17 (y188_2 + 2)) 0 30 y188_2) 0 22 → rF s274 0 23 = rF (sF (sF s188 0 17 (y188_2 + 2)) 0 30 y188_2) 0 23 → rF s274 0 29 = rF (sF (sF s188 0 17 (y188_2 + 2)) 0 30 y188_2) 0 29 → rF s274 0 30 = rF (sF (sF s188 0 17 (y188_2 + 2)) 0 30 y188_2) 0 30 → rF s274 0 31 = rF (sF (sF s188 0 17 (y188_2 + 2)) 0 30 y188_2) 0 31 → rF s274 0 32 = rF (sF (sF s188 0 17 (y188_2 + 2)) 0 30 y188_2) 0 32 → rF s274 0 33 = rF (sF (sF s188 0 17 (y188_2 + 2)) 0 30 y188_2) 0 33 → rF s274 0 38 = rF (sF (sF s188 0 17 (y188_2 + 2)) 0 30 y188_2) 0 38 → rF s274 0 39 = rF (sF (sF s188 0 17 (y188_2 + 2)) 0 30 y188_2) 0 39 → (∀ i, rA s274 1034 i = rA (sF (sF s188 0 17 (y188_2 + 2)) 0 30 y188_2) 1034 i) → (∀ i, rA s274 1035 i = rA (sF (sF s188 0 17 (y188_2 + 2)) 0 30 y188_2) 1035 i) → (∀ i, rA s274 1040 i = rA (sF (sF s188 0 17 (y188_2 + 2)) 0 30 y188_2) 1040 i) → rF s274 (rR σ 7) 7 = rF (sF (sF s188 0 17 (y188_2 + 2)) 0 30 y188_2) (rR σ 7) 7 → rF s274 (rR σ 7) 9 = rF (sF (sF s188 0 17 (y188_2 + 2)) 0 30 y188_2) (rR σ 7) 9 → rF s274 (rR σ 7) 12 = rF (sF (sF s188 0 17 (y188_2 + 2)) 0 30 y188_2) (rR σ 7) 12 → rF s274 (rR σ 7) 32 = rF (sF (sF s188 0 17 (y188_2 + 2)) 0 30 y188_2) (rR σ 7) 32 → rF s274 (rR σ 7) 38 = rF (sF (sF s188 0 17 (y188_2 + 2)) 0 30 y188_2) (rR σ 7) 38 → (∀ i, rA s274 (1000 * ((rR σ 7) + 1) + 10) i = rA (sF (sF s188 0 17 (y188_2 + 2)) 0 30 y188_2) (1000 * ((rR σ 7) + 1) + 10) i) → (∀ i, rA s274 (1000 * ((rR σ 7) + 1) + 11) i = rA (sF (sF s188 0 17 (y188_2 + 2)) 0 30 y188_2) (1000 * ((rR σ 7) + 1) + 11) i) → fz s274 = fz (sF (sF s188 0 17 (y188_2 + 2)) 0 30 y188_2) → RG (sF (sF s188 0 17 (y188_2 + 2)) 0 30 y188_2) s274 (rR σ 7) 0 → post_X14_packed_f (sF (sF s188 0 17 (y188_2 + 2)) 0 30 y188_2) y188_1 y188_2 s274 → ∃ (g23 : Nat → Int → Int), pre_X14_wholeText s274 gg g23 ∧ (∀ (v278 : Int) (s278 : rS), rng v278 → rWF s278 → (CCp s274 → CCp s278) → rR s278 7 = rR s274 7 → rR s278 15 = rR s274 15 → rF s278 0 14 = rF s274 0 14 → rF s278 0 16 = rF s274 0 16 → rF s278 0 17 = rF s274 0 17 → rF s278 0 19 = rF s274 0 19 → rF s278 0 21 = rF s274 0 21 → rF s278 0 22 = rF s274 0 22 → rF s278 0 23 = rF s274 0 23 → rF s278 0 28 = rF s274 0 28 → rF s278 0 30 = rF s274 0 30 → rF s278 0 32 = rF s274 0 32 → rF s278 0 33 = rF s274 0 33 → (∀ i, rA s278 1027 i = rA s274 1027 i) → post_X14_wholeText s274 gg g23 v278 s278 → Q v278 s278))) ∧ (¬ y188_3 = 0 → rng (y188_2 - y188_1) ∧ (((y188_2 - y188_1) ≤ 0 → (inv_X14_readBody_247 σ gg U g (sF (sF s188 0 17 (y188_2 + 2)) 0 30 y188_2) y188_1 y188_2)) ∧ (¬ (y188_2 - y188_1) ≤ 0 → rfk (rR s188 15) ∧ (0 ≤ y188_1 ∧ y188_1 < 4000) ∧ (rng (rA s188 (rR s188 15) y188_1) → ((¬ (rA s188 (rR s188 15) y188_1) = 10 → (inv_X14_readBody_247 σ gg U g (sF (sF s188 0 17 (y188_2 + 2)) 0 30 y188_2) y188_1 y188_2)) ∧ ((rA s188 (rR s188 15) y188_1) = 10 → rng (y188_1 + 1) ∧ (inv_X14_readBody_247 σ gg U g (sF (sF s188 0 17 (y188_2 + 2)) 0 30 y188_2) (y188_1 + 1) y188_2))))))))) ∧ (¬ y188_2 < (rF s188 0 16) → pre_X14_bad s188 1 (rF s188 0 16) ∧ (∀ (s202 : rS), rWF s202 → (rNMp s188 → rNMp s202) → (PNp s188 → PNp s202) → (CCp s188 → CCp s202) → rR s202 7 = rR s188 7 → rR s202 15 = rR s188 15 → rF s202 0 14 = rF s188 0 14 → rF s202 0 16 = rF s188 0 16 → rF s202 0 17 = rF s188 0 17 → rF s202 0 19 = rF s188 0 19 → rF s202 0 21 = rF s188 0 21 → rF s202 0 22 = rF s188 0 22 → rF s202 0 23 = rF s188 0 23 → rF s202 0 28 = rF s188 0 28 → rF s202 0 29 = rF s188 0 29 → rF s202 0 30 = rF s188 0 30 → rF s202 0 31 = rF s188 0 31 → rF s202 0 32 = rF s188 0 32 → rF s202 0 33 = rF s188 0 33 → rF s202 0 38 = rF s188 0 38 → rF s202 0 39 = rF s188 0 39 → (∀ i, rA s202 1027 i = rA s188 1027 i) → (∀ i, rA s202 1034 i = rA s188 1034 i) → (∀ i, rA s202 1035 i = rA s188 1035 i) → (∀ i, rA s202 1040 i = rA s188 1040 i) → rF s202 (rR σ 7) 7 = rF s188 (rR σ 7) 7 → rF s202 (rR σ 7) 9 = rF s188 (rR σ 7) 9 → rF s202 (rR σ 7) 12 = rF s188 (rR σ 7) 12 → rF s202 (rR σ 7) 32 = rF s188 (rR σ 7) 32 → rF s202 (rR σ 7) 38 = rF s188 (rR σ 7) 38 → (∀ i, rA s202 (1000 * ((rR σ 7) + 1) + 10) i = rA s188 (1000 * ((rR σ 7) + 1) + 10) i) → (∀ i, rA s202 (1000 * ((rR σ 7) + 1) + 11) i = rA s188 (1000 * ((rR σ 7) + 1) + 11) i) → RG s188 s202 (rR σ 7) 0 → post_X14_bad s188 1 (rF s188 0 16) s202 → Q 0 s202)))))
def VC_X14_readBody_143 (σ : rS) (gg : Nat) (U : Int) (g : Nat → Int → Int) (Q : Int → rS → Prop) : Prop := ∀ (s143 : rS) (y143_1 : Int) (y143_2 : Int) (y143_3 : Int), rWF s143 → rng y143_1 → rng y143_2 → rng y143_3 → rR s143 7 = rR σ 7 → rR s143 15 = rR σ 15 → rF s143 0 14 = rF σ 0 14 → rF s143 0 16 = rF σ 0 16 → rF s143 0 19 = rF σ 0 19 → rF s143 0 32 = rF σ 0 32 → rF s143 0 33 = rF σ 0 33 → inv_X14_readBody_143 σ gg U g s143 y143_1 y143_2 y143_3 → ((rng (rF s143 0 16) → (((rF s143 0 16) ≤ y143_2 → (inv_X14_readBody_188 σ gg U g s143 y143_1 y143_2 y143_3)) ∧ (¬ (rF s143 0 16) ≤ y143_2 → pre_X14_fc s143 y143_2 ∧ (∀ (v153 : Int), rng v153 → post_X14_fc s143 y143_2 v153 → ((y143_3 = 0 → ((¬ v153 = 37 → rng (y143_2 + 1) ∧ (inv_X14_readBody_143 σ gg U g s143 y143_1 (y143_2 + 1) y143_3 ∧ (mu_X14_readBody_143 σ gg U g s143 y143_1 (y143_2 + 1) y143_3) < (mu_X14_readBody_143 σ gg U g s143 y143_1 y143_2 y143_3))) ∧ (v153 = 37 → rng (y143_2 + 1) ∧ pre_X14_fc s143 (y143_2 + 1) ∧ (∀ (v174 : Int), rng v174 → post_X14_fc s143 (y143_2 + 1) v174 → ((v174 = 62 → (inv_X14_readBody_188 σ gg U g s143 y143_1 y143_2 y143_3)) ∧ (¬ v174 = 62 → (inv_X14_readBody_143 σ gg U g s143 y143_1 (y143_2 + 1) y143_3 ∧ (mu_X14_readBody_143 σ gg U g s143 y143_1 (y143_2 + 1) y143_3) < (mu_X14_readBody_143 σ gg U g s143 y143_1 y143_2 y143_3)))))))) ∧ (¬ y143_3 = 0 → ((¬ v153 = 62 → rng (y143_2 + 1) ∧ (inv_X14_readBody_143 σ gg U g s143 y143_1 (y143_2 + 1) y143_3 ∧ (mu_X14_readBody_143 σ gg U g s143 y143_1 (y143_2 + 1) y143_3) < (mu_X14_readBody_143 σ gg U g s143 y143_1 y143_2 y143_3))) ∧ (v153 = 62 → rng (y143_2 + 1) ∧ pre_X14_fc s143 (y143_2 + 1) ∧ (∀ (v174 : Int), rng v174 → post_X14_fc s143 (y143_2 + 1) v174 → ((v174 = 62 → (inv_X14_readBody_188 σ gg U g s143 y143_1 y143_2 y143_3)) ∧ (¬ v174 = 62 → (inv_X14_readBody_143 σ gg U g s143 y143_1 (y143_2 + 1) y143_3 ∧ (mu_X14_readBody_143 σ gg U g s143 y143_1 (y143_2 + 1) y143_3) < (mu_X14_readBody_143 σ gg U g s143 y143_1 y143_2 y143_3))))))))))))))
def VC_X14_readBody_143m (σ : rS) (gg : Nat) (U : Int) (g : Nat → Int → Int) : Prop := ∀ (s143 : rS) (y143_1 : Int) (y143_2 : Int) (y143_3 : Int), rWF s143 → rng y143_1 → rng y143_2 → rng y143_3 → rR s143 7 = rR σ 7 → rR s143 15 = rR σ 15 → rF s143 0 14 = rF σ 0 14 → rF s143 0 16 = rF σ 0 16 → rF s143 0 19 = rF σ 0 19 → rF s143 0 32 = rF σ 0 32 → rF s143 0 33 = rF σ 0 33 → inv_X14_readBody_143 σ gg U g s143 y143_1 y143_2 y143_3 → 0 < (mu_X14_readBody_143 σ gg U g s143 y143_1 y143_2 y143_3)
def VC_X14_readBody_113 (σ : rS) (gg : Nat) (U : Int) (g : Nat → Int → Int) (Q : Int → rS → Prop) : Prop := ∀ (s113 : rS), rWF s113 → rR s113 7 = rR σ 7 → rR s113 15 = rR σ 15 → rF s113 0 14 = rF σ 0 14 → rF s113 0 16 = rF σ 0 16 → rF s113 0 19 = rF σ 0 19 → rF s113 0 32 = rF σ 0 32 → rF s113 0 33 = rF σ 0 33 → inv_X14_readBody_113 σ gg U g s113 → ((rng (rF s113 0 17) → rng ((rF s113 0 17) + 1) ∧ pre_X14_fc s113 ((rF s113 0 17) + 1) ∧ (∀ (v120 : Int), rng v120 → post_X14_fc s113 ((rF s113 0 17) + 1) v120 → ((¬ v120 = 60 → rng ((rF s113 0 17) + 2) ∧ (inv_X14_readBody_143 σ gg U g s113 ((rF s113 0 17) + 2) ((rF s113 0 17) + 2) 0)) ∧ (v120 = 60 → rng ((rF s113 0 17) + 2) ∧ (inv_X14_readBody_143 σ gg U g s113 ((rF s113 0 17) + 2) ((rF s113 0 17) + 2) 1))))))
set_option maxRecDepth 20000 in
set_option maxHeartbeats 20000000 in
theorem vX14_readBody (σ : rS) (gg : Nat) (U : Int) (g : Nat → Int → Int) (hwf : rWF σ) (hp : pre_X14_readBody σ gg U g) : VC_X14_readBody σ gg U g (post_X14_readBody σ gg U g) := by
  unfold pre_X14_readBody at hp
  obtain ⟨hp_1, hp_2, hp_3, hp_4, hp_5, hp_6, hp_7, hp_8⟩ := hp
  subst hp_1
  have hF := hp_3
  unfold FPZ at hF
  have zr0 := fz_rng σ
  unfold VC_X14_readBody
  refine ⟨(by (all_goals (repeat' (first | with_reducible intro _ | with_reducible apply And.intro))); all_goals (first | assumption | trivial | (unfold FPZ; omega) | (unfold FQZ; omega) | omega | (have zz_ := fz_z (by assumption); omega) | (split <;> omega) | (exact TPqp.z (by first | omega | (simp only [rF_sF, Nat.reduceEqDiff, and_false, and_true, and_self, reduceIte]; omega) | simp only [rF_sF, Nat.reduceEqDiff, and_false, and_true, and_self, reduceIte])) | (exact CCp.mk (by assumption) (by first | omega | (simp only [rF_sF, Nat.reduceEqDiff, and_false, and_true, and_self, reduceIte]; omega))) | done)), ?_⟩
  refine ⟨(by (try simp only [pre_X14_skip]); (all_goals (repeat' (first | with_reducible intro _ | with_reducible apply And.intro | with_reducible refine Exists.intro g ?_ | with_reducible refine Im.and ?_ ?_))); all_goals (first | assumption | trivial | ((with_reducible refine Im.i fun hf_ => ?_); first | exact ((fun _ => RG.t0f (by omega) (by omega)) hf_) | exact (hp_7 hf_) | exact ((fun _ => GK.rf) hf_) | exact ok1.i | (exact LI.z (fun h => absurd h (by decide))) | (exact absurd hf_ (by omega)) | omega) | (unfold FPZ; omega) | (unfold FQZ; omega) | omega | (have zz_ := fz_z (by assumption); omega) | (split <;> omega) | (exact TPqp.z (by first | omega | (simp only [rF_sF, Nat.reduceEqDiff, and_false, and_true, and_self, reduceIte]; omega) | simp only [rF_sF, Nat.reduceEqDiff, and_false, and_true, and_self, reduceIte])) | (exact CCp.mk (by assumption) (by first | omega | (simp only [rF_sF, Nat.reduceEqDiff, and_false, and_true, and_self, reduceIte]; omega))) | done)), ?_⟩
  intro s1 Ws1 e1_0 e1_1 e1_2 e1_3 e1_4 e1_5 e1_6 e1_7 e1_8 e1_9 e1_10 e1_11 e1_12 e1_13 e1_14 e1_15 e1_16 e1_17 e1_18 e1_19 e1_20 e1_21 e1_22 e1_23 e1_24 e1_25 e1_26 e1_27 e1_28 e1_29 R1 q1
  have q1 := dig_X14_skip q1
  obtain ⟨q1_1, q1_2, q1_3⟩ := q1
  (try simp only [FPZ, FQZ] at q1_1 q1_2 q1_3 e1_0 e1_1 e1_2 e1_3 e1_4 e1_5 e1_6 e1_7 e1_8 e1_9 e1_10 e1_11 e1_12 e1_13 e1_14 e1_15 e1_16 e1_17 e1_18 e1_19 e1_20 e1_21 e1_22 e1_23 e1_24 e1_25 e1_26 e1_27 e1_28 e1_29 R1)
  have Ks1 : rR s1 7 = rR σ 7 := by first | assumption | ((try simp only [rR_sF, rR_sA, rR_sT, rR_sL] at e1_0 e1_1 e1_2 e1_3 e1_4 e1_5 e1_6 e1_7 e1_8 e1_9 e1_10 e1_11 e1_12 e1_13 e1_14 e1_15 e1_16 e1_17 e1_18 e1_19 e1_20 e1_21 e1_22 e1_23 e1_24 e1_25 e1_26 e1_27 e1_28 e1_29 R1); omega)
  have Fs1 : rR s1 15 = rR σ 15 := by first | assumption | ((try simp only [rR_sF, rR_sA, rR_sT, rR_sL] at e1_0 e1_1 e1_2 e1_3 e1_4 e1_5 e1_6 e1_7 e1_8 e1_9 e1_10 e1_11 e1_12 e1_13 e1_14 e1_15 e1_16 e1_17 e1_18 e1_19 e1_20 e1_21 e1_22 e1_23 e1_24 e1_25 e1_26 e1_27 e1_28 e1_29 R1); omega)
  have zr1 := fz_rng s1
  have zc1 : fz s1 = 0 → fz σ = 0 := fun hf => by omega
  have A1 : Im (fz s1 = 0) (RG (RT σ) s1 (rR σ 7) 0) := fun hf => RG.trk hp_2 ((fun _ => RG.t0f (by omega) (by omega)) (zc1 hf)) R1 (Or.inr (Or.inl rfl))
  have Ku1 : Im (fz s1 = 0) (GK g g (rF σ (rR σ 7) 7) (rF s1 (rR σ 7) 7) 0) := fun hf => GK.trans ((fun _ => GK.rf) (zc1 hf)) (GK.up (N := rF σ (rR σ 7) 7) (N' := rF s1 (rR σ 7) 7) (c := 0) (by first | assumption | omega | (simp only [rF_sT, rF_sA]; omega))) (Or.inr (Or.inl rfl))
  have Gu2 : Im (fz s1 = 0) (GS s1 (rR σ 7) g) := fun hf => GS.mv hp_2 (hp_7 (zc1 hf)) R1 (by first | assumption | omega | (simp only [rF_sT, rF_sA]; omega)) (by first | (exact Int.le_of_eq (Eq.symm (by assumption))) | omega | (simp only [rF_sT, rF_sA]; omega))
  have rNMp_1 := e1_0 hp_4; clear e1_0
  have PNp_1 := e1_1 hp_5; clear e1_1
  clear e1_2
  intro hr_; unfold rng at hr_
  refine ⟨fun c8 => ?_, fun c8 => ?_⟩
  · have z8 := fz_z c8
    intro hr_; unfold rng at hr_
    refine ⟨(by (try simp only [pre_X14_fc, reduceIte, and_true, true_and, and_false, false_and, and_self, Nat.reduceEqDiff, fz_sF28, rF_sF, rA_sF, rR_sF, tr_sF, rNMp_sF, PNp_sF, GS_F28, OP_F28, NR_F28, LI_F28, RG_l28, RG_r28, WNp_sF28, VMp_sF28, KYp_sF28, PPp_sF28, WFp_sF28, rk_n0 hp_2, Ks1, Fs1]); (all_goals (repeat' (first | with_reducible intro _ | with_reducible apply And.intro | with_reducible refine Exists.intro g ?_ | with_reducible refine Im.and ?_ ?_))); all_goals (first | assumption | trivial | ((with_reducible refine Im.i fun hf_ => ?_); first | exact (A1 hf_) | exact (Gu2 hf_) | exact (Ku1 hf_) | exact ok1.i | (exact LI.z (fun h => absurd h (by decide))) | (exact absurd hf_ (by omega)) | omega) | (unfold FPZ; (try simp only [reduceIte, and_true, true_and, and_false, false_and, and_self, Nat.reduceEqDiff, fz_sF28, rF_sF, rA_sF, rR_sF, tr_sF, rNMp_sF, PNp_sF, GS_F28, OP_F28, NR_F28, LI_F28, RG_l28, RG_r28, WNp_sF28, VMp_sF28, KYp_sF28, PPp_sF28, WFp_sF28, rk_n0 hp_2, Ks1, Fs1]); omega) | (unfold FQZ; (try simp only [reduceIte, and_true, true_and, and_false, false_and, and_self, Nat.reduceEqDiff, fz_sF28, rF_sF, rA_sF, rR_sF, tr_sF, rNMp_sF, PNp_sF, GS_F28, OP_F28, NR_F28, LI_F28, RG_l28, RG_r28, WNp_sF28, VMp_sF28, KYp_sF28, PPp_sF28, WFp_sF28, rk_n0 hp_2, Ks1, Fs1]); omega) | omega | (have zz_ := fz_z (by assumption); omega) | (split <;> omega) | (exact TPqp.z (by first | omega | (simp only [rF_sF, Nat.reduceEqDiff, and_false, and_true, and_self, reduceIte]; omega) | simp only [rF_sF, Nat.reduceEqDiff, and_false, and_true, and_self, reduceIte])) | (exact CCp.mk (by assumption) (by first | omega | (simp only [rF_sF, Nat.reduceEqDiff, and_false, and_true, and_self, reduceIte]; omega))) | done)), ?_⟩
    intro v28 hv28 q28
    unfold rng at hv28
    unfold post_X14_fc at q28
    obtain ⟨q28_1, q28_2⟩ := q28
    (try simp only [reduceIte, and_true, true_and, and_false, false_and, and_self, Nat.reduceEqDiff, fz_sF28, rF_sF, rA_sF, rR_sF, tr_sF, rNMp_sF, PNp_sF, GS_F28, OP_F28, NR_F28, LI_F28, RG_l28, RG_r28, WNp_sF28, VMp_sF28, KYp_sF28, PPp_sF28, WFp_sF28, rk_n0 hp_2, Ks1, Fs1, FPZ, FQZ] at q28_1 q28_2)
    refine ⟨fun c33 => ?_, fun c33 => ?_⟩
    · refine ⟨(by (try simp only [pre_X14_fc, reduceIte, and_true, true_and, and_false, false_and, and_self, Nat.reduceEqDiff, fz_sF28, rF_sF, rA_sF, rR_sF, tr_sF, rNMp_sF, PNp_sF, GS_F28, OP_F28, NR_F28, LI_F28, RG_l28, RG_r28, WNp_sF28, VMp_sF28, KYp_sF28, PPp_sF28, WFp_sF28, rk_n0 hp_2, Ks1, Fs1]); (all_goals (repeat' (first | with_reducible intro _ | with_reducible apply And.intro | with_reducible refine Exists.intro g ?_ | with_reducible refine Im.and ?_ ?_))); all_goals (first | assumption | trivial | ((with_reducible refine Im.i fun hf_ => ?_); first | exact (A1 hf_) | exact (Gu2 hf_) | exact (Ku1 hf_) | exact ok1.i | (exact LI.z (fun h => absurd h (by decide))) | (exact absurd hf_ (by omega)) | omega) | (unfold FPZ; (try simp only [reduceIte, and_true, true_and, and_false, false_and, and_self, Nat.reduceEqDiff, fz_sF28, rF_sF, rA_sF, rR_sF, tr_sF, rNMp_sF, PNp_sF, GS_F28, OP_F28, NR_F28, LI_F28, RG_l28, RG_r28, WNp_sF28, VMp_sF28, KYp_sF28, PPp_sF28, WFp_sF28, rk_n0 hp_2, Ks1, Fs1]); omega) | (unfold FQZ; (try simp only [reduceIte, and_true, true_and, and_false, false_and, and_self, Nat.reduceEqDiff, fz_sF28, rF_sF, rA_sF, rR_sF, tr_sF, rNMp_sF, PNp_sF, GS_F28, OP_F28, NR_F28, LI_F28, RG_l28, RG_r28, WNp_sF28, VMp_sF28, KYp_sF28, PPp_sF28, WFp_sF28, rk_n0 hp_2, Ks1, Fs1]); omega) | omega | (have zz_ := fz_z (by assumption); omega) | (split <;> omega) | (exact TPqp.z (by first | omega | (simp only [rF_sF, Nat.reduceEqDiff, and_false, and_true, and_self, reduceIte]; omega) | simp only [rF_sF, Nat.reduceEqDiff, and_false, and_true, and_self, reduceIte])) | (exact CCp.mk (by assumption) (by first | omega | (simp only [rF_sF, Nat.reduceEqDiff, and_false, and_true, and_self, reduceIte]; omega))) | done)), ?_⟩
      intro v75 hv75 q75
      unfold rng at hv75
      unfold post_X14_fc at q75
      obtain ⟨q75_1, q75_2⟩ := q75
      (try simp only [reduceIte, and_true, true_and, and_false, false_and, and_self, Nat.reduceEqDiff, fz_sF28, rF_sF, rA_sF, rR_sF, tr_sF, rNMp_sF, PNp_sF, GS_F28, OP_F28, NR_F28, LI_F28, RG_l28, RG_r28, WNp_sF28, VMp_sF28, KYp_sF28, PPp_sF28, WFp_sF28, rk_n0 hp_2, Ks1, Fs1, FPZ, FQZ] at q75_1 q75_2)
      refine ⟨fun c80 => ?_, fun c80 => ?_⟩
      · refine ⟨(by (try simp only [pre_X14_bad, reduceIte, and_true, true_and, and_false, false_and, and_self, Nat.reduceEqDiff, fz_sF28, rF_sF, rA_sF, rR_sF, tr_sF, rNMp_sF, PNp_sF, GS_F28, OP_F28, NR_F28, LI_F28, RG_l28, RG_r28, WNp_sF28, VMp_sF28, KYp_sF28, PPp_sF28, WFp_sF28, rk_n0 hp_2, Ks1, Fs1]); (all_goals (repeat' (first | with_reducible intro _ | with_reducible apply And.intro | with_reducible refine Exists.intro g ?_ | with_reducible refine Im.and ?_ ?_))); all_goals (first | assumption | trivial | ((with_reducible refine Im.i fun hf_ => ?_); first | exact (A1 hf_) | exact (Gu2 hf_) | exact (Ku1 hf_) | exact ok1.i | (exact LI.z (fun h => absurd h (by decide))) | (exact absurd hf_ (by omega)) | omega) | (unfold FPZ; (try simp only [reduceIte, and_true, true_and, and_false, false_and, and_self, Nat.reduceEqDiff, fz_sF28, rF_sF, rA_sF, rR_sF, tr_sF, rNMp_sF, PNp_sF, GS_F28, OP_F28, NR_F28, LI_F28, RG_l28, RG_r28, WNp_sF28, VMp_sF28, KYp_sF28, PPp_sF28, WFp_sF28, rk_n0 hp_2, Ks1, Fs1]); omega) | (unfold FQZ; (try simp only [reduceIte, and_true, true_and, and_false, false_and, and_self, Nat.reduceEqDiff, fz_sF28, rF_sF, rA_sF, rR_sF, tr_sF, rNMp_sF, PNp_sF, GS_F28, OP_F28, NR_F28, LI_F28, RG_l28, RG_r28, WNp_sF28, VMp_sF28, KYp_sF28, PPp_sF28, WFp_sF28, rk_n0 hp_2, Ks1, Fs1]); omega) | omega | (have zz_ := fz_z (by assumption); omega) | (split <;> omega) | (exact TPqp.z (by first | omega | (simp only [rF_sF, Nat.reduceEqDiff, and_false, and_true, and_self, reduceIte]; omega) | simp only [rF_sF, Nat.reduceEqDiff, and_false, and_true, and_self, reduceIte])) | (exact CCp.mk (by assumption) (by first | omega | (simp only [rF_sF, Nat.reduceEqDiff, and_false, and_true, and_self, reduceIte]; omega))) | done)), ?_⟩
        intro s291 Ws291 e291_0 e291_1 e291_2 e291_3 e291_4 e291_5 e291_6 e291_7 e291_8 e291_9 e291_10 e291_11 e291_12 e291_13 e291_14 e291_15 e291_16 e291_17 e291_18 e291_19 e291_20 e291_21 e291_22 e291_23 e291_24 e291_25 e291_26 e291_27 e291_28 e291_29 e291_30 R291 q291
        have q291 := dig_bad q291 (by (try simp only [reduceIte, and_true, true_and, and_false, false_and, and_self, Nat.reduceEqDiff, fz_sF28, rF_sF, rA_sF, rR_sF, tr_sF, rNMp_sF, PNp_sF, GS_F28, OP_F28, NR_F28, LI_F28, RG_l28, RG_r28, WNp_sF28, VMp_sF28, KYp_sF28, PPp_sF28, WFp_sF28, rk_n0 hp_2, Ks1, Fs1]); omega)
        obtain ⟨q291_1, q291_2⟩ := q291
        (try simp only [reduceIte, and_true, true_and, and_false, false_and, and_self, Nat.reduceEqDiff, fz_sF28, rF_sF, rA_sF, rR_sF, tr_sF, rNMp_sF, PNp_sF, GS_F28, OP_F28, NR_F28, LI_F28, RG_l28, RG_r28, WNp_sF28, VMp_sF28, KYp_sF28, PPp_sF28, WFp_sF28, rk_n0 hp_2, Ks1, Fs1, FPZ, FQZ] at q291_1 q291_2 e291_0 e291_1 e291_2 e291_3 e291_4 e291_5 e291_6 e291_7 e291_8 e291_9 e291_10 e291_11 e291_12 e291_13 e291_14 e291_15 e291_16 e291_17 e291_18 e291_19 e291_20 e291_21 e291_22 e291_23 e291_24 e291_25 e291_26 e291_27 e291_28 e291_29 e291_30 R291)
        have Ks291 : rR s291 7 = rR σ 7 := by first | assumption | ((try simp only [rR_sF, rR_sA, rR_sT, rR_sL] at e291_0 e291_1 e291_2 e291_3 e291_4 e291_5 e291_6 e291_7 e291_8 e291_9 e291_10 e291_11 e291_12 e291_13 e291_14 e291_15 e291_16 e291_17 e291_18 e291_19 e291_20 e291_21 e291_22 e291_23 e291_24 e291_25 e291_26 e291_27 e291_28 e291_29 e291_30 R291); omega)
        have Fs291 : rR s291 15 = rR σ 15 := by first | assumption | ((try simp only [rR_sF, rR_sA, rR_sT, rR_sL] at e291_0 e291_1 e291_2 e291_3 e291_4 e291_5 e291_6 e291_7 e291_8 e291_9 e291_10 e291_11 e291_12 e291_13 e291_14 e291_15 e291_16 e291_17 e291_18 e291_19 e291_20 e291_21 e291_22 e291_23 e291_24 e291_25 e291_26 e291_27 e291_28 e291_29 e291_30 R291); omega)
        have zr291 := fz_rng s291
        have zc291 : fz s291 = 0 → fz s1 = 0 := fun hf => by omega
        have A291 : Im (fz s291 = 0) (RG (RT σ) s291 (rR σ 7) 0) := fun hf => RG.trk hp_2 (A1 (zc291 hf)) R291 (Or.inr (Or.inl rfl))
        have Ku3 : Im (fz s291 = 0) (GK g g (rF σ (rR σ 7) 7) (rF s291 (rR σ 7) 7) 0) := fun hf => GK.trans (Ku1 (zc291 hf)) (GK.up (N := rF s1 (rR σ 7) 7) (N' := rF s291 (rR σ 7) 7) (c := 0) (by first | assumption | omega | (simp only [rF_sT, rF_sA]; omega))) (Or.inr (Or.inl rfl))
        have Gu4 : Im (fz s291 = 0) (GS s291 (rR σ 7) g) := fun hf => GS.mv hp_2 (Gu2 (zc291 hf)) R291 (by first | assumption | omega | (simp only [rF_sT, rF_sA]; omega)) (by first | (exact Int.le_of_eq (Eq.symm (by assumption))) | omega | (simp only [rF_sT, rF_sA]; omega))
        have rNMp_291 := e291_0 rNMp_1; clear e291_0
        have PNp_291 := e291_1 PNp_1; clear e291_1
        clear e291_2
        exact (by (try simp only [post_X14_readBody, Ks291, Fs291]); (all_goals (repeat' (first | with_reducible intro _ | with_reducible apply And.intro | with_reducible refine Exists.intro g ?_ | with_reducible refine Im.and ?_ ?_))); all_goals (first | assumption | trivial | ((with_reducible refine Im.i fun hf_ => ?_); first | exact (A291 hf_) | exact (Gu4 hf_) | exact (Ku3 hf_) | exact ok1.i | (exact LI.z (fun h => absurd h (by decide))) | (exact absurd hf_ (by omega)) | omega) | (unfold FPZ; (try simp only [Ks291, Fs291]); omega) | (unfold FQZ; (try simp only [Ks291, Fs291]); omega) | omega | (have zz_ := fz_z (by assumption); omega) | (split <;> omega) | (exact TPqp.z (by first | omega | (simp only [rF_sF, Nat.reduceEqDiff, and_false, and_true, and_self, reduceIte]; omega) | simp only [rF_sF, Nat.reduceEqDiff, and_false, and_true, and_self, reduceIte])) | (exact CCp.mk (by assumption) (by first | omega | (simp only [rF_sF, Nat.reduceEqDiff, and_false, and_true, and_self, reduceIte]; omega))) | done))
      · refine ⟨(by (try simp only [rng, reduceIte, and_true, true_and, and_false, false_and, and_self, Nat.reduceEqDiff, fz_sF28, rF_sF, rA_sF, rR_sF, tr_sF, rNMp_sF, PNp_sF, GS_F28, OP_F28, NR_F28, LI_F28, RG_l28, RG_r28, WNp_sF28, VMp_sF28, KYp_sF28, PPp_sF28, WFp_sF28, rk_n0 hp_2, Ks1, Fs1]); (all_goals (repeat' (first | with_reducible intro _ | with_reducible apply And.intro | with_reducible refine Exists.intro g ?_ | with_reducible refine Im.and ?_ ?_))); all_goals (first | assumption | trivial | ((with_reducible refine Im.i fun hf_ => ?_); first | exact (A1 hf_) | exact (Gu2 hf_) | exact (Ku1 hf_) | exact ok1.i | (exact LI.z (fun h => absurd h (by decide))) | (exact absurd hf_ (by omega)) | omega) | (unfold FPZ; (try simp only [reduceIte, and_true, true_and, and_false, false_and, and_self, Nat.reduceEqDiff, fz_sF28, rF_sF, rA_sF, rR_sF, tr_sF, rNMp_sF, PNp_sF, GS_F28, OP_F28, NR_F28, LI_F28, RG_l28, RG_r28, WNp_sF28, VMp_sF28, KYp_sF28, PPp_sF28, WFp_sF28, rk_n0 hp_2, Ks1, Fs1]); omega) | (unfold FQZ; (try simp only [reduceIte, and_true, true_and, and_false, false_and, and_self, Nat.reduceEqDiff, fz_sF28, rF_sF, rA_sF, rR_sF, tr_sF, rNMp_sF, PNp_sF, GS_F28, OP_F28, NR_F28, LI_F28, RG_l28, RG_r28, WNp_sF28, VMp_sF28, KYp_sF28, PPp_sF28, WFp_sF28, rk_n0 hp_2, Ks1, Fs1]); omega) | omega | (have zz_ := fz_z (by assumption); omega) | (split <;> omega) | (exact TPqp.z (by first | omega | (simp only [rF_sF, Nat.reduceEqDiff, and_false, and_true, and_self, reduceIte]; omega) | simp only [rF_sF, Nat.reduceEqDiff, and_false, and_true, and_self, reduceIte])) | (exact CCp.mk (by assumption) (by first | omega | (simp only [rF_sF, Nat.reduceEqDiff, and_false, and_true, and_self, reduceIte]; omega))) | done)), ?_⟩
        refine ⟨(by (try simp only [pre_X14_fc, reduceIte, and_true, true_and, and_false, false_and, and_self, Nat.reduceEqDiff, fz_sF28, rF_sF, rA_sF, rR_sF, tr_sF, rNMp_sF, PNp_sF, GS_F28, OP_F28, NR_F28, LI_F28, RG_l28, RG_r28, WNp_sF28, VMp_sF28, KYp_sF28, PPp_sF28, WFp_sF28, rk_n0 hp_2, Ks1, Fs1]); (all_goals (repeat' (first | with_reducible intro _ | with_reducible apply And.intro | with_reducible refine Exists.intro g ?_ | with_reducible refine Im.and ?_ ?_))); all_goals (first | assumption | trivial | ((with_reducible refine Im.i fun hf_ => ?_); first | exact (A1 hf_) | exact (Gu2 hf_) | exact (Ku1 hf_) | exact ok1.i | (exact LI.z (fun h => absurd h (by decide))) | (exact absurd hf_ (by omega)) | omega) | (unfold FPZ; (try simp only [reduceIte, and_true, true_and, and_false, false_and, and_self, Nat.reduceEqDiff, fz_sF28, rF_sF, rA_sF, rR_sF, tr_sF, rNMp_sF, PNp_sF, GS_F28, OP_F28, NR_F28, LI_F28, RG_l28, RG_r28, WNp_sF28, VMp_sF28, KYp_sF28, PPp_sF28, WFp_sF28, rk_n0 hp_2, Ks1, Fs1]); omega) | (unfold FQZ; (try simp only [reduceIte, and_true, true_and, and_false, false_and, and_self, Nat.reduceEqDiff, fz_sF28, rF_sF, rA_sF, rR_sF, tr_sF, rNMp_sF, PNp_sF, GS_F28, OP_F28, NR_F28, LI_F28, RG_l28, RG_r28, WNp_sF28, VMp_sF28, KYp_sF28, PPp_sF28, WFp_sF28, rk_n0 hp_2, Ks1, Fs1]); omega) | omega | (have zz_ := fz_z (by assumption); omega) | (split <;> omega) | (exact TPqp.z (by first | omega | (simp only [rF_sF, Nat.reduceEqDiff, and_false, and_true, and_self, reduceIte]; omega) | simp only [rF_sF, Nat.reduceEqDiff, and_false, and_true, and_self, reduceIte])) | (exact CCp.mk (by assumption) (by first | omega | (simp only [rF_sF, Nat.reduceEqDiff, and_false, and_true, and_self, reduceIte]; omega))) | done)), ?_⟩
        intro v90 hv90 q90
        unfold rng at hv90
        unfold post_X14_fc at q90
        obtain ⟨q90_1, q90_2⟩ := q90
        (try simp only [reduceIte, and_true, true_and, and_false, false_and, and_self, Nat.reduceEqDiff, fz_sF28, rF_sF, rA_sF, rR_sF, tr_sF, rNMp_sF, PNp_sF, GS_F28, OP_F28, NR_F28, LI_F28, RG_l28, RG_r28, WNp_sF28, VMp_sF28, KYp_sF28, PPp_sF28, WFp_sF28, rk_n0 hp_2, Ks1, Fs1, FPZ, FQZ] at q90_1 q90_2)
        refine ⟨fun c95 => ?_, fun c95 => ?_⟩
        · exact (by (try simp only [inv_X14_readBody_113, reduceIte, and_true, true_and, and_false, false_and, and_self, Nat.reduceEqDiff, fz_sF28, rF_sF, rA_sF, rR_sF, tr_sF, rNMp_sF, PNp_sF, GS_F28, OP_F28, NR_F28, LI_F28, RG_l28, RG_r28, WNp_sF28, VMp_sF28, KYp_sF28, PPp_sF28, WFp_sF28, rk_n0 hp_2, Ks1, Fs1]); (all_goals (repeat' (first | with_reducible intro _ | with_reducible apply And.intro | with_reducible refine Exists.intro g ?_ | with_reducible refine Im.and ?_ ?_))); all_goals (first | assumption | trivial | ((with_reducible refine Im.i fun hf_ => ?_); first | exact (A1 hf_) | exact (Gu2 hf_) | exact (Ku1 hf_) | exact ok1.i | (exact LI.z (fun h => absurd h (by decide))) | (exact absurd hf_ (by omega)) | omega) | (unfold FPZ; (try simp only [reduceIte, and_true, true_and, and_false, false_and, and_self, Nat.reduceEqDiff, fz_sF28, rF_sF, rA_sF, rR_sF, tr_sF, rNMp_sF, PNp_sF, GS_F28, OP_F28, NR_F28, LI_F28, RG_l28, RG_r28, WNp_sF28, VMp_sF28, KYp_sF28, PPp_sF28, WFp_sF28, rk_n0 hp_2, Ks1, Fs1]); omega) | (unfold FQZ; (try simp only [reduceIte, and_true, true_and, and_false, false_and, and_self, Nat.reduceEqDiff, fz_sF28, rF_sF, rA_sF, rR_sF, tr_sF, rNMp_sF, PNp_sF, GS_F28, OP_F28, NR_F28, LI_F28, RG_l28, RG_r28, WNp_sF28, VMp_sF28, KYp_sF28, PPp_sF28, WFp_sF28, rk_n0 hp_2, Ks1, Fs1]); omega) | omega | (have zz_ := fz_z (by assumption); omega) | (split <;> omega) | (exact TPqp.z (by first | omega | (simp only [rF_sF, Nat.reduceEqDiff, and_false, and_true, and_self, reduceIte]; omega) | simp only [rF_sF, Nat.reduceEqDiff, and_false, and_true, and_self, reduceIte])) | (exact CCp.mk (by assumption) (by first | omega | (simp only [rF_sF, Nat.reduceEqDiff, and_false, and_true, and_self, reduceIte]; omega))) | done))
        · refine ⟨(by (try simp only [pre_X14_fc, reduceIte, and_true, true_and, and_false, false_and, and_self, Nat.reduceEqDiff, fz_sF28, rF_sF, rA_sF, rR_sF, tr_sF, rNMp_sF, PNp_sF, GS_F28, OP_F28, NR_F28, LI_F28, RG_l28, RG_r28, WNp_sF28, VMp_sF28, KYp_sF28, PPp_sF28, WFp_sF28, rk_n0 hp_2, Ks1, Fs1]); (all_goals (repeat' (first | with_reducible intro _ | with_reducible apply And.intro | with_reducible refine Exists.intro g ?_ | with_reducible refine Im.and ?_ ?_))); all_goals (first | assumption | trivial | ((with_reducible refine Im.i fun hf_ => ?_); first | exact (A1 hf_) | exact (Gu2 hf_) | exact (Ku1 hf_) | exact ok1.i | (exact LI.z (fun h => absurd h (by decide))) | (exact absurd hf_ (by omega)) | omega) | (unfold FPZ; (try simp only [reduceIte, and_true, true_and, and_false, false_and, and_self, Nat.reduceEqDiff, fz_sF28, rF_sF, rA_sF, rR_sF, tr_sF, rNMp_sF, PNp_sF, GS_F28, OP_F28, NR_F28, LI_F28, RG_l28, RG_r28, WNp_sF28, VMp_sF28, KYp_sF28, PPp_sF28, WFp_sF28, rk_n0 hp_2, Ks1, Fs1]); omega) | (unfold FQZ; (try simp only [reduceIte, and_true, true_and, and_false, false_and, and_self, Nat.reduceEqDiff, fz_sF28, rF_sF, rA_sF, rR_sF, tr_sF, rNMp_sF, PNp_sF, GS_F28, OP_F28, NR_F28, LI_F28, RG_l28, RG_r28, WNp_sF28, VMp_sF28, KYp_sF28, PPp_sF28, WFp_sF28, rk_n0 hp_2, Ks1, Fs1]); omega) | omega | (have zz_ := fz_z (by assumption); omega) | (split <;> omega) | (exact TPqp.z (by first | omega | (simp only [rF_sF, Nat.reduceEqDiff, and_false, and_true, and_self, reduceIte]; omega) | simp only [rF_sF, Nat.reduceEqDiff, and_false, and_true, and_self, reduceIte])) | (exact CCp.mk (by assumption) (by first | omega | (simp only [rF_sF, Nat.reduceEqDiff, and_false, and_true, and_self, reduceIte]; omega))) | done)), ?_⟩
          intro v105 hv105 q105
          unfold rng at hv105
          unfold post_X14_fc at q105
          obtain ⟨q105_1, q105_2⟩ := q105
          (try simp only [reduceIte, and_true, true_and, and_false, false_and, and_self, Nat.reduceEqDiff, fz_sF28, rF_sF, rA_sF, rR_sF, tr_sF, rNMp_sF, PNp_sF, GS_F28, OP_F28, NR_F28, LI_F28, RG_l28, RG_r28, WNp_sF28, VMp_sF28, KYp_sF28, PPp_sF28, WFp_sF28, rk_n0 hp_2, Ks1, Fs1, FPZ, FQZ] at q105_1 q105_2)
          refine ⟨fun c110 => ?_, fun c110 => ?_⟩
          · refine ⟨(by (try simp only [pre_X14_bad, reduceIte, and_true, true_and, and_false, false_and, and_self, Nat.reduceEqDiff, fz_sF28, rF_sF, rA_sF, rR_sF, tr_sF, rNMp_sF, PNp_sF, GS_F28, OP_F28, NR_F28, LI_F28, RG_l28, RG_r28, WNp_sF28, VMp_sF28, KYp_sF28, PPp_sF28, WFp_sF28, rk_n0 hp_2, Ks1, Fs1]); (all_goals (repeat' (first | with_reducible intro _ | with_reducible apply And.intro | with_reducible refine Exists.intro g ?_ | with_reducible refine Im.and ?_ ?_))); all_goals (first | assumption | trivial | ((with_reducible refine Im.i fun hf_ => ?_); first | exact (A1 hf_) | exact (Gu2 hf_) | exact (Ku1 hf_) | exact ok1.i | (exact LI.z (fun h => absurd h (by decide))) | (exact absurd hf_ (by omega)) | omega) | (unfold FPZ; (try simp only [reduceIte, and_true, true_and, and_false, false_and, and_self, Nat.reduceEqDiff, fz_sF28, rF_sF, rA_sF, rR_sF, tr_sF, rNMp_sF, PNp_sF, GS_F28, OP_F28, NR_F28, LI_F28, RG_l28, RG_r28, WNp_sF28, VMp_sF28, KYp_sF28, PPp_sF28, WFp_sF28, rk_n0 hp_2, Ks1, Fs1]); omega) | (unfold FQZ; (try simp only [reduceIte, and_true, true_and, and_false, false_and, and_self, Nat.reduceEqDiff, fz_sF28, rF_sF, rA_sF, rR_sF, tr_sF, rNMp_sF, PNp_sF, GS_F28, OP_F28, NR_F28, LI_F28, RG_l28, RG_r28, WNp_sF28, VMp_sF28, KYp_sF28, PPp_sF28, WFp_sF28, rk_n0 hp_2, Ks1, Fs1]); omega) | omega | (have zz_ := fz_z (by assumption); omega) | (split <;> omega) | (exact TPqp.z (by first | omega | (simp only [rF_sF, Nat.reduceEqDiff, and_false, and_true, and_self, reduceIte]; omega) | simp only [rF_sF, Nat.reduceEqDiff, and_false, and_true, and_self, reduceIte])) | (exact CCp.mk (by assumption) (by first | omega | (simp only [rF_sF, Nat.reduceEqDiff, and_false, and_true, and_self, reduceIte]; omega))) | done)), ?_⟩
            intro s291 Ws291 e291_0 e291_1 e291_2 e291_3 e291_4 e291_5 e291_6 e291_7 e291_8 e291_9 e291_10 e291_11 e291_12 e291_13 e291_14 e291_15 e291_16 e291_17 e291_18 e291_19 e291_20 e291_21 e291_22 e291_23 e291_24 e291_25 e291_26 e291_27 e291_28 e291_29 e291_30 R291 q291
            have q291 := dig_bad q291 (by (try simp only [reduceIte, and_true, true_and, and_false, false_and, and_self, Nat.reduceEqDiff, fz_sF28, rF_sF, rA_sF, rR_sF, tr_sF, rNMp_sF, PNp_sF, GS_F28, OP_F28, NR_F28, LI_F28, RG_l28, RG_r28, WNp_sF28, VMp_sF28, KYp_sF28, PPp_sF28, WFp_sF28, rk_n0 hp_2, Ks1, Fs1]); omega)
            obtain ⟨q291_1, q291_2⟩ := q291
            (try simp only [reduceIte, and_true, true_and, and_false, false_and, and_self, Nat.reduceEqDiff, fz_sF28, rF_sF, rA_sF, rR_sF, tr_sF, rNMp_sF, PNp_sF, GS_F28, OP_F28, NR_F28, LI_F28, RG_l28, RG_r28, WNp_sF28, VMp_sF28, KYp_sF28, PPp_sF28, WFp_sF28, rk_n0 hp_2, Ks1, Fs1, FPZ, FQZ] at q291_1 q291_2 e291_0 e291_1 e291_2 e291_3 e291_4 e291_5 e291_6 e291_7 e291_8 e291_9 e291_10 e291_11 e291_12 e291_13 e291_14 e291_15 e291_16 e291_17 e291_18 e291_19 e291_20 e291_21 e291_22 e291_23 e291_24 e291_25 e291_26 e291_27 e291_28 e291_29 e291_30 R291)
            have Ks291 : rR s291 7 = rR σ 7 := by first | assumption | ((try simp only [rR_sF, rR_sA, rR_sT, rR_sL] at e291_0 e291_1 e291_2 e291_3 e291_4 e291_5 e291_6 e291_7 e291_8 e291_9 e291_10 e291_11 e291_12 e291_13 e291_14 e291_15 e291_16 e291_17 e291_18 e291_19 e291_20 e291_21 e291_22 e291_23 e291_24 e291_25 e291_26 e291_27 e291_28 e291_29 e291_30 R291); omega)
            have Fs291 : rR s291 15 = rR σ 15 := by first | assumption | ((try simp only [rR_sF, rR_sA, rR_sT, rR_sL] at e291_0 e291_1 e291_2 e291_3 e291_4 e291_5 e291_6 e291_7 e291_8 e291_9 e291_10 e291_11 e291_12 e291_13 e291_14 e291_15 e291_16 e291_17 e291_18 e291_19 e291_20 e291_21 e291_22 e291_23 e291_24 e291_25 e291_26 e291_27 e291_28 e291_29 e291_30 R291); omega)
            have zr291 := fz_rng s291
            have zc291 : fz s291 = 0 → fz s1 = 0 := fun hf => by omega
            have A291 : Im (fz s291 = 0) (RG (RT σ) s291 (rR σ 7) 0) := fun hf => RG.trk hp_2 (A1 (zc291 hf)) R291 (Or.inr (Or.inl rfl))
            have Ku25 : Im (fz s291 = 0) (GK g g (rF σ (rR σ 7) 7) (rF s291 (rR σ 7) 7) 0) := fun hf => GK.trans (Ku1 (zc291 hf)) (GK.up (N := rF s1 (rR σ 7) 7) (N' := rF s291 (rR σ 7) 7) (c := 0) (by first | assumption | omega | (simp only [rF_sT, rF_sA]; omega))) (Or.inr (Or.inl rfl))
            have Gu26 : Im (fz s291 = 0) (GS s291 (rR σ 7) g) := fun hf => GS.mv hp_2 (Gu2 (zc291 hf)) R291 (by first | assumption | omega | (simp only [rF_sT, rF_sA]; omega)) (by first | (exact Int.le_of_eq (Eq.symm (by assumption))) | omega | (simp only [rF_sT, rF_sA]; omega))
            have rNMp_291 := e291_0 rNMp_1; clear e291_0
            have PNp_291 := e291_1 PNp_1; clear e291_1
            clear e291_2
            exact (by (try simp only [post_X14_readBody, Ks291, Fs291]); (all_goals (repeat' (first | with_reducible intro _ | with_reducible apply And.intro | with_reducible refine Exists.intro g ?_ | with_reducible refine Im.and ?_ ?_))); all_goals (first | assumption | trivial | ((with_reducible refine Im.i fun hf_ => ?_); first | exact (A291 hf_) | exact (Gu26 hf_) | exact (Ku25 hf_) | exact ok1.i | (exact LI.z (fun h => absurd h (by decide))) | (exact absurd hf_ (by omega)) | omega) | (unfold FPZ; (try simp only [Ks291, Fs291]); omega) | (unfold FQZ; (try simp only [Ks291, Fs291]); omega) | omega | (have zz_ := fz_z (by assumption); omega) | (split <;> omega) | (exact TPqp.z (by first | omega | (simp only [rF_sF, Nat.reduceEqDiff, and_false, and_true, and_self, reduceIte]; omega) | simp only [rF_sF, Nat.reduceEqDiff, and_false, and_true, and_self, reduceIte])) | (exact CCp.mk (by assumption) (by first | omega | (simp only [rF_sF, Nat.reduceEqDiff, and_false, and_true, and_self, reduceIte]; omega))) | done))
          · exact (by (try simp only [inv_X14_readBody_113, reduceIte, and_true, true_and, and_false, false_and, and_self, Nat.reduceEqDiff, fz_sF28, rF_sF, rA_sF, rR_sF, tr_sF, rNMp_sF, PNp_sF, GS_F28, OP_F28, NR_F28, LI_F28, RG_l28, RG_r28, WNp_sF28, VMp_sF28, KYp_sF28, PPp_sF28, WFp_sF28, rk_n0 hp_2, Ks1, Fs1]); (all_goals (repeat' (first | with_reducible intro _ | with_reducible apply And.intro | with_reducible refine Exists.intro g ?_ | with_reducible refine Im.and ?_ ?_))); all_goals (first | assumption | trivial | ((with_reducible refine Im.i fun hf_ => ?_); first | exact (A1 hf_) | exact (Gu2 hf_) | exact (Ku1 hf_) | exact ok1.i | (exact LI.z (fun h => absurd h (by decide))) | (exact absurd hf_ (by omega)) | omega) | (unfold FPZ; (try simp only [reduceIte, and_true, true_and, and_false, false_and, and_self, Nat.reduceEqDiff, fz_sF28, rF_sF, rA_sF, rR_sF, tr_sF, rNMp_sF, PNp_sF, GS_F28, OP_F28, NR_F28, LI_F28, RG_l28, RG_r28, WNp_sF28, VMp_sF28, KYp_sF28, PPp_sF28, WFp_sF28, rk_n0 hp_2, Ks1, Fs1]); omega) | (unfold FQZ; (try simp only [reduceIte, and_true, true_and, and_false, false_and, and_self, Nat.reduceEqDiff, fz_sF28, rF_sF, rA_sF, rR_sF, tr_sF, rNMp_sF, PNp_sF, GS_F28, OP_F28, NR_F28, LI_F28, RG_l28, RG_r28, WNp_sF28, VMp_sF28, KYp_sF28, PPp_sF28, WFp_sF28, rk_n0 hp_2, Ks1, Fs1]); omega) | omega | (have zz_ := fz_z (by assumption); omega) | (split <;> omega) | (exact TPqp.z (by first | omega | (simp only [rF_sF, Nat.reduceEqDiff, and_false, and_true, and_self, reduceIte]; omega) | simp only [rF_sF, Nat.reduceEqDiff, and_false, and_true, and_self, reduceIte])) | (exact CCp.mk (by assumption) (by first | omega | (simp only [rF_sF, Nat.reduceEqDiff, and_false, and_true, and_self, reduceIte]; omega))) | done))
    · refine ⟨(by (try simp only [pre_X14_fileString_f, reduceIte, and_true, true_and, and_false, false_and, and_self, Nat.reduceEqDiff, fz_sF28, rF_sF, rA_sF, rR_sF, tr_sF, rNMp_sF, PNp_sF, GS_F28, OP_F28, NR_F28, LI_F28, RG_l28, RG_r28, WNp_sF28, VMp_sF28, KYp_sF28, PPp_sF28, WFp_sF28, rk_n0 hp_2, Ks1, Fs1]); (all_goals (repeat' (first | with_reducible intro _ | with_reducible apply And.intro | with_reducible refine Exists.intro g ?_ | with_reducible refine Im.and ?_ ?_))); all_goals (first | assumption | trivial | ((with_reducible refine Im.i fun hf_ => ?_); first | exact (A1 hf_) | exact (Gu2 hf_) | exact (Ku1 hf_) | exact ok1.i | (exact LI.z (fun h => absurd h (by decide))) | (exact absurd hf_ (by omega)) | omega) | (unfold FPZ; (try simp only [reduceIte, and_true, true_and, and_false, false_and, and_self, Nat.reduceEqDiff, fz_sF28, rF_sF, rA_sF, rR_sF, tr_sF, rNMp_sF, PNp_sF, GS_F28, OP_F28, NR_F28, LI_F28, RG_l28, RG_r28, WNp_sF28, VMp_sF28, KYp_sF28, PPp_sF28, WFp_sF28, rk_n0 hp_2, Ks1, Fs1]); omega) | (unfold FQZ; (try simp only [reduceIte, and_true, true_and, and_false, false_and, and_self, Nat.reduceEqDiff, fz_sF28, rF_sF, rA_sF, rR_sF, tr_sF, rNMp_sF, PNp_sF, GS_F28, OP_F28, NR_F28, LI_F28, RG_l28, RG_r28, WNp_sF28, VMp_sF28, KYp_sF28, PPp_sF28, WFp_sF28, rk_n0 hp_2, Ks1, Fs1]); omega) | omega | (have zz_ := fz_z (by assumption); omega) | (split <;> omega) | (exact TPqp.z (by first | omega | (simp only [rF_sF, Nat.reduceEqDiff, and_false, and_true, and_self, reduceIte]; omega) | simp only [rF_sF, Nat.reduceEqDiff, and_false, and_true, and_self, reduceIte])) | (exact CCp.mk (by assumption) (by first | omega | (simp only [rF_sF, Nat.reduceEqDiff, and_false, and_true, and_self, reduceIte]; omega))) | done)), ?_⟩
      intro s37 Ws37 e37_0 e37_1 e37_2 e37_3 e37_4 e37_5 e37_6 e37_7 e37_8 e37_9 e37_10 e37_11 e37_12 e37_13 e37_14 e37_15 e37_16 e37_17 e37_18 e37_19 e37_20 e37_21 e37_22 e37_23 e37_24 e37_25 e37_26 R37 q37
      unfold post_X14_fileString_f at q37
      obtain ⟨q37_1, q37_2, q37_3, q37_4⟩ := q37
      (try simp only [reduceIte, and_true, true_and, and_false, false_and, and_self, Nat.reduceEqDiff, fz_sF28, rF_sF, rA_sF, rR_sF, tr_sF, rNMp_sF, PNp_sF, GS_F28, OP_F28, NR_F28, LI_F28, RG_l28, RG_r28, WNp_sF28, VMp_sF28, KYp_sF28, PPp_sF28, WFp_sF28, rk_n0 hp_2, Ks1, Fs1, FPZ, FQZ] at q37_1 q37_2 q37_3 q37_4 e37_0 e37_1 e37_2 e37_3 e37_4 e37_5 e37_6 e37_7 e37_8 e37_9 e37_10 e37_11 e37_12 e37_13 e37_14 e37_15 e37_16 e37_17 e37_18 e37_19 e37_20 e37_21 e37_22 e37_23 e37_24 e37_25 e37_26 R37)
      have Ks37 : rR s37 7 = rR σ 7 := by first | assumption | ((try simp only [rR_sF, rR_sA, rR_sT, rR_sL] at e37_0 e37_1 e37_2 e37_3 e37_4 e37_5 e37_6 e37_7 e37_8 e37_9 e37_10 e37_11 e37_12 e37_13 e37_14 e37_15 e37_16 e37_17 e37_18 e37_19 e37_20 e37_21 e37_22 e37_23 e37_24 e37_25 e37_26 R37); omega)
      have Fs37 : rR s37 15 = rR σ 15 := by first | assumption | ((try simp only [rR_sF, rR_sA, rR_sT, rR_sL] at e37_0 e37_1 e37_2 e37_3 e37_4 e37_5 e37_6 e37_7 e37_8 e37_9 e37_10 e37_11 e37_12 e37_13 e37_14 e37_15 e37_16 e37_17 e37_18 e37_19 e37_20 e37_21 e37_22 e37_23 e37_24 e37_25 e37_26 R37); omega)
      have zr37 := fz_rng s37
      have zc37 : fz s37 = 0 → fz s1 = 0 := fun hf => by omega
      have A37 : Im (fz s37 = 0) (RG (RT σ) s37 (rR σ 7) 0) := fun hf => RG.trk hp_2 (A1 (zc37 hf)) R37 (Or.inr (Or.inl rfl))
      have Ku27 : Im (fz s37 = 0) (GK g g (rF σ (rR σ 7) 7) (rF s37 (rR σ 7) 7) 0) := fun hf => GK.trans (Ku1 (zc37 hf)) (GK.up (N := rF s1 (rR σ 7) 7) (N' := rF s37 (rR σ 7) 7) (c := 0) (by first | assumption | omega | (simp only [rF_sT, rF_sA]; omega))) (Or.inr (Or.inl rfl))
      have Gu28 : Im (fz s37 = 0) (GS s37 (rR σ 7) g) := fun hf => GS.mv hp_2 (Gu2 (zc37 hf)) R37 (by first | assumption | omega | (simp only [rF_sT, rF_sA]; omega)) (by first | (exact Int.le_of_eq (Eq.symm (by assumption))) | omega | (simp only [rF_sT, rF_sA]; omega))
      have rNMp_37 := e37_0 rNMp_1; clear e37_0
      have PNp_37 := e37_1 PNp_1; clear e37_1
      clear e37_2
      intro hr_; unfold rng at hr_
      refine ⟨fun c44 => ?_, fun c44 => ?_⟩
      · have z44 := fz_z c44
        intro hr_; unfold rng at hr_
        intro hr_; unfold rng at hr_
        exact (by (try simp only [inv_X14_readBody_298, reduceIte, and_true, true_and, and_false, false_and, and_self, Nat.reduceEqDiff, fz_sF30, rF_sF, rA_sF, rR_sF, tr_sF, rNMp_sF, PNp_sF, GS_F30, OP_F30, NR_F30, LI_F30, RG_l30, RG_r30, WNp_sF30, VMp_sF30, KYp_sF30, PPp_sF30, WFp_sF30, rk_n0 hp_2, Ks37, Fs37]); (all_goals (repeat' (first | with_reducible intro _ | with_reducible apply And.intro | with_reducible refine Exists.intro g ?_ | with_reducible refine Im.and ?_ ?_))); all_goals (first | assumption | trivial | ((with_reducible refine Im.i fun hf_ => ?_); first | exact (A37 hf_) | exact (Gu28 hf_) | exact (Ku27 hf_) | exact ok1.i | (exact LI.z (fun h => absurd h (by decide))) | (exact absurd hf_ (by omega)) | omega) | (unfold FPZ; (try simp only [reduceIte, and_true, true_and, and_false, false_and, and_self, Nat.reduceEqDiff, fz_sF30, rF_sF, rA_sF, rR_sF, tr_sF, rNMp_sF, PNp_sF, GS_F30, OP_F30, NR_F30, LI_F30, RG_l30, RG_r30, WNp_sF30, VMp_sF30, KYp_sF30, PPp_sF30, WFp_sF30, rk_n0 hp_2, Ks37, Fs37]); omega) | (unfold FQZ; (try simp only [reduceIte, and_true, true_and, and_false, false_and, and_self, Nat.reduceEqDiff, fz_sF30, rF_sF, rA_sF, rR_sF, tr_sF, rNMp_sF, PNp_sF, GS_F30, OP_F30, NR_F30, LI_F30, RG_l30, RG_r30, WNp_sF30, VMp_sF30, KYp_sF30, PPp_sF30, WFp_sF30, rk_n0 hp_2, Ks37, Fs37]); omega) | omega | (have zz_ := fz_z (by assumption); omega) | (split <;> omega) | (exact TPqp.z (by first | omega | (simp only [rF_sF, Nat.reduceEqDiff, and_false, and_true, and_self, reduceIte]; omega) | simp only [rF_sF, Nat.reduceEqDiff, and_false, and_true, and_self, reduceIte])) | (exact CCp.mk (by assumption) (by first | omega | (simp only [rF_sF, Nat.reduceEqDiff, and_false, and_true, and_self, reduceIte]; omega))) | done))
      · have z44 := fz_n c44
        exact (by (try simp only [post_X14_readBody, Ks37, Fs37]); (all_goals (repeat' (first | with_reducible intro _ | with_reducible apply And.intro | with_reducible refine Exists.intro g ?_ | with_reducible refine Im.and ?_ ?_))); all_goals (first | assumption | trivial | ((with_reducible refine Im.i fun hf_ => ?_); first | exact (A37 hf_) | exact (Gu28 hf_) | exact (Ku27 hf_) | exact ok1.i | (exact LI.z (fun h => absurd h (by decide))) | (exact absurd hf_ (by omega)) | omega) | (unfold FPZ; (try simp only [Ks37, Fs37]); omega) | (unfold FQZ; (try simp only [Ks37, Fs37]); omega) | omega | (have zz_ := fz_z (by assumption); omega) | (split <;> omega) | (exact TPqp.z (by first | omega | (simp only [rF_sF, Nat.reduceEqDiff, and_false, and_true, and_self, reduceIte]; omega) | simp only [rF_sF, Nat.reduceEqDiff, and_false, and_true, and_self, reduceIte])) | (exact CCp.mk (by assumption) (by first | omega | (simp only [rF_sF, Nat.reduceEqDiff, and_false, and_true, and_self, reduceIte]; omega))) | done))
  · have z8 := fz_n c8
    exact (by (try simp only [post_X14_readBody, Ks1, Fs1]); (all_goals (repeat' (first | with_reducible intro _ | with_reducible apply And.intro | with_reducible refine Exists.intro g ?_ | with_reducible refine Im.and ?_ ?_))); all_goals (first | assumption | trivial | ((with_reducible refine Im.i fun hf_ => ?_); first | exact (A1 hf_) | exact (Gu2 hf_) | exact (Ku1 hf_) | exact ok1.i | (exact LI.z (fun h => absurd h (by decide))) | (exact absurd hf_ (by omega)) | omega) | (unfold FPZ; (try simp only [Ks1, Fs1]); omega) | (unfold FQZ; (try simp only [Ks1, Fs1]); omega) | omega | (have zz_ := fz_z (by assumption); omega) | (split <;> omega) | (exact TPqp.z (by first | omega | (simp only [rF_sF, Nat.reduceEqDiff, and_false, and_true, and_self, reduceIte]; omega) | simp only [rF_sF, Nat.reduceEqDiff, and_false, and_true, and_self, reduceIte])) | (exact CCp.mk (by assumption) (by first | omega | (simp only [rF_sF, Nat.reduceEqDiff, and_false, and_true, and_self, reduceIte]; omega))) | done))
set_option maxRecDepth 20000 in
set_option maxHeartbeats 20000000 in
theorem vX14_readBody_298 (σ : rS) (gg : Nat) (U : Int) (g : Nat → Int → Int) (hwf : rWF σ) (hp : pre_X14_readBody σ gg U g) : VC_X14_readBody_298 σ gg U g (post_X14_readBody σ gg U g) := by
  unfold pre_X14_readBody at hp
  obtain ⟨hp_1, hp_2, hp_3, hp_4, hp_5, hp_6, hp_7, hp_8⟩ := hp
  subst hp_1
  have hF := hp_3
  unfold FPZ at hF
  have zr0 := fz_rng σ
  unfold VC_X14_readBody_298
  intro s298 y298_2 y298_3 Ws298 hy298_2 hy298_3 e298_0 e298_1 e298_2 e298_3 e298_4 e298_5 e298_6 I298
  have Ks298 : rR s298 7 = rR σ 7 := by omega
  have Fs298 : rR s298 15 = rR σ 15 := by omega
  unfold inv_X14_readBody_298 at I298
  obtain ⟨I298_1, I298_2, I298_3, I298_4, I298_5, I298_6, I298_7, I298_8, I298_9, I298_10, I298_11, I298_12, I298_13, I298_14, I298_15, I298_16, I298_17, I298_18, I298_19, I298_20, I298_21, I298_22, I298_23, I298_24, I298_25, I298_26⟩ := I298
  (try simp only [Ks298, Fs298, FPZ, FQZ] at I298_1 I298_2 I298_3 I298_4 I298_5 I298_6 I298_7 I298_8 I298_9 I298_10 I298_11 I298_12 I298_13 I298_14 I298_15 I298_16 I298_17 I298_18 I298_19 I298_20 I298_21 I298_22 I298_23 I298_24 I298_25 I298_26)
  have zr298 := fz_rng s298
  obtain ⟨g298, X298⟩ := I298_26
  have G298 : Im (fz s298 = 0) _ := fun hf => (X298 hf).1
  have KA298 : Im (fz s298 = 0) _ := fun hf => (X298 hf).2.1
  refine ⟨fun c300 => ?_, fun c300 => ?_⟩
  · refine ⟨g298, ?_⟩
    refine ⟨(by (try simp only [pre_X14_wholeText, Ks298, Fs298]); (all_goals (repeat' (first | with_reducible intro _ | with_reducible apply And.intro | with_reducible refine Exists.intro g298 ?_ | with_reducible refine Im.and ?_ ?_))); all_goals (first | assumption | trivial | ((with_reducible refine Im.i fun hf_ => ?_); first | exact (I298_25 hf_) | exact (G298 hf_) | exact (KA298 hf_) | exact ok1.i | (exact LI.z (fun h => absurd h (by decide))) | (exact absurd hf_ (by omega)) | omega) | (unfold FPZ; (try simp only [Ks298, Fs298]); omega) | (unfold FQZ; (try simp only [Ks298, Fs298]); omega) | omega | (have zz_ := fz_z (by assumption); omega) | (split <;> omega) | (exact TPqp.z (by first | omega | (simp only [rF_sF, Nat.reduceEqDiff, and_false, and_true, and_self, reduceIte]; omega) | simp only [rF_sF, Nat.reduceEqDiff, and_false, and_true, and_self, reduceIte])) | (exact CCp.mk (by assumption) (by first | omega | (simp only [rF_sF, Nat.reduceEqDiff, and_false, and_true, and_self, reduceIte]; omega))) | done)), ?_⟩
    intro v321 s321 hv321 Ws321 e321_0 e321_1 e321_2 e321_3 e321_4 e321_5 e321_6 e321_7 e321_8 e321_9 e321_10 e321_11 e321_12 e321_13 e321_14 q321
    unfold rng at hv321
    unfold post_X14_wholeText at q321
    obtain ⟨q321_1, q321_2, q321_3, q321_4, q321_5, q321_6, q321_7, q321_8, q321_9, q321_10, q321_11, q321_12, q321_13, q321_14, q321_15, q321_16, q321_17, q321_18, q321_19⟩ := q321
    (try simp only [Ks298, Fs298, FPZ, FQZ] at q321_1 q321_2 q321_3 q321_4 q321_5 q321_6 q321_7 q321_8 q321_9 q321_10 q321_11 q321_12 q321_13 q321_14 q321_15 q321_16 q321_17 q321_18 q321_19 e321_0 e321_1 e321_2 e321_3 e321_4 e321_5 e321_6 e321_7 e321_8 e321_9 e321_10 e321_11 e321_12 e321_13 e321_14)
    have Ks321 : rR s321 7 = rR σ 7 := by first | assumption | ((try simp only [rR_sF, rR_sA, rR_sT, rR_sL] at e321_0 e321_1 e321_2 e321_3 e321_4 e321_5 e321_6 e321_7 e321_8 e321_9 e321_10 e321_11 e321_12 e321_13 e321_14); omega)
    have Fs321 : rR s321 15 = rR σ 15 := by first | assumption | ((try simp only [rR_sF, rR_sA, rR_sT, rR_sL] at e321_0 e321_1 e321_2 e321_3 e321_4 e321_5 e321_6 e321_7 e321_8 e321_9 e321_10 e321_11 e321_12 e321_13 e321_14); omega)
    have zr321 := fz_rng s321
    have zc321 : fz s321 = 0 → fz s298 = 0 := fun hf => by omega
    have A321 : Im (fz s321 = 0) (RG (RT σ) s321 (rR σ 7) 0) := fun hf => RG.tt (q321_18 (by omega)) (I298_25 (zc321 hf))
    obtain ⟨g321, X321⟩ := q321_19
    have Ku29 : Im (fz s321 = 0) (GK g g321 (rF σ (rR σ 7) 7) (rF s321 (rR σ 7) 7) 0) := fun hf => GK.trans (KA298 (zc321 hf)) ((X321 hf).2.1) (Or.inr (Or.inl rfl))
    have Gu30 : Im (fz s321 = 0) (GS s321 (rR σ 7) g321) := fun hf => (X321 hf).1
    have r321 : Im (fz s321 = 0) _ := fun hf => (X321 hf).2.2.1
    clear e321_0
    exact (by (try simp only [post_X14_readBody, Ks321, Fs321]); (all_goals (repeat' (first | with_reducible intro _ | with_reducible apply And.intro | with_reducible refine Exists.intro g321 ?_ | with_reducible refine Im.and ?_ ?_))); all_goals (first | assumption | trivial | ((with_reducible refine Im.i fun hf_ => ?_); first | exact (A321 hf_) | exact (Gu30 hf_) | exact (Ku29 hf_) | exact (r321 hf_).cst | exact ok1.i | (exact LI.z (fun h => absurd h (by decide))) | (exact absurd hf_ (by omega)) | omega) | (unfold FPZ; (try simp only [Ks321, Fs321]); omega) | (unfold FQZ; (try simp only [Ks321, Fs321]); omega) | omega | (have zz_ := fz_z (by assumption); omega) | (split <;> omega) | (exact TPqp.z (by first | omega | (simp only [rF_sF, Nat.reduceEqDiff, and_false, and_true, and_self, reduceIte]; omega) | simp only [rF_sF, Nat.reduceEqDiff, and_false, and_true, and_self, reduceIte])) | (exact CCp.mk (by assumption) (by first | omega | (simp only [rF_sF, Nat.reduceEqDiff, and_false, and_true, and_self, reduceIte]; omega))) | done))
  · refine ⟨(by (try simp only [Ks298, Fs298]); (all_goals (repeat' (first | with_reducible intro _ | with_reducible apply And.intro | with_reducible refine Exists.intro g298 ?_ | with_reducible refine Im.and ?_ ?_))); all_goals (first | assumption | trivial | ((with_reducible refine Im.i fun hf_ => ?_); first | exact (I298_25 hf_) | exact (G298 hf_) | exact (KA298 hf_) | exact ok1.i | (exact LI.z (fun h => absurd h (by decide))) | (exact absurd hf_ (by omega)) | omega) | (unfold FPZ; (try simp only [Ks298, Fs298]); omega) | (unfold FQZ; (try simp only [Ks298, Fs298]); omega) | omega | (have zz_ := fz_z (by assumption); omega) | (split <;> omega) | (exact TPqp.z (by first | omega | (simp only [rF_sF, Nat.reduceEqDiff, and_false, and_true, and_self, reduceIte]; omega) | simp only [rF_sF, Nat.reduceEqDiff, and_false, and_true, and_self, reduceIte])) | (exact CCp.mk (by assumption) (by first | omega | (simp only [rF_sF, Nat.reduceEqDiff, and_false, and_true, and_self, reduceIte]; omega))) | done)), ?_⟩
    refine ⟨(by (try simp only [Ks298, Fs298]); (all_goals (repeat' (first | with_reducible intro _ | with_reducible apply And.intro | with_reducible refine Exists.intro g298 ?_ | with_reducible refine Im.and ?_ ?_))); all_goals (first | assumption | trivial | ((with_reducible refine Im.i fun hf_ => ?_); first | exact (I298_25 hf_) | exact (G298 hf_) | exact (KA298 hf_) | exact ok1.i | (exact LI.z (fun h => absurd h (by decide))) | (exact absurd hf_ (by omega)) | omega) | (unfold FPZ; (try simp only [Ks298, Fs298]); omega) | (unfold FQZ; (try simp only [Ks298, Fs298]); omega) | omega | (have zz_ := fz_z (by assumption); omega) | (split <;> omega) | (exact TPqp.z (by first | omega | (simp only [rF_sF, Nat.reduceEqDiff, and_false, and_true, and_self, reduceIte]; omega) | simp only [rF_sF, Nat.reduceEqDiff, and_false, and_true, and_self, reduceIte])) | (exact CCp.mk (by assumption) (by first | omega | (simp only [rF_sF, Nat.reduceEqDiff, and_false, and_true, and_self, reduceIte]; omega))) | done)), ?_⟩
    intro hr_; unfold rng at hr_
    refine ⟨(by (try simp only [pre_X14_addByte_f, Ks298, Fs298]); (all_goals (repeat' (first | with_reducible intro _ | with_reducible apply And.intro | with_reducible refine Exists.intro g298 ?_ | with_reducible refine Im.and ?_ ?_))); all_goals (first | assumption | trivial | ((with_reducible refine Im.i fun hf_ => ?_); first | exact (I298_25 hf_) | exact (G298 hf_) | exact (KA298 hf_) | exact ok1.i | (exact LI.z (fun h => absurd h (by decide))) | (exact absurd hf_ (by omega)) | omega) | (unfold FPZ; (try simp only [Ks298, Fs298]); omega) | (unfold FQZ; (try simp only [Ks298, Fs298]); omega) | omega | (have zz_ := fz_z (by assumption); omega) | (split <;> omega) | (exact TPqp.z (by first | omega | (simp only [rF_sF, Nat.reduceEqDiff, and_false, and_true, and_self, reduceIte]; omega) | simp only [rF_sF, Nat.reduceEqDiff, and_false, and_true, and_self, reduceIte])) | (exact CCp.mk (by assumption) (by first | omega | (simp only [rF_sF, Nat.reduceEqDiff, and_false, and_true, and_self, reduceIte]; omega))) | done)), ?_⟩
    intro s311 Ws311 e311_0 e311_1 e311_2 e311_3 e311_4 e311_5 e311_6 e311_7 e311_8 e311_9 e311_10 e311_11 e311_12 e311_13 e311_14 e311_15 e311_16 e311_17 e311_18 e311_19 e311_20 e311_21 e311_22 e311_23 e311_24 e311_25 e311_26 e311_27 e311_28 e311_29 R311 q311
    unfold post_X14_addByte_f at q311
    obtain ⟨q311_1, q311_2⟩ := q311
    (try simp only [Ks298, Fs298, FPZ, FQZ] at q311_1 q311_2 e311_0 e311_1 e311_2 e311_3 e311_4 e311_5 e311_6 e311_7 e311_8 e311_9 e311_10 e311_11 e311_12 e311_13 e311_14 e311_15 e311_16 e311_17 e311_18 e311_19 e311_20 e311_21 e311_22 e311_23 e311_24 e311_25 e311_26 e311_27 e311_28 e311_29 R311)
    have Ks311 : rR s311 7 = rR σ 7 := by first | assumption | ((try simp only [rR_sF, rR_sA, rR_sT, rR_sL] at e311_0 e311_1 e311_2 e311_3 e311_4 e311_5 e311_6 e311_7 e311_8 e311_9 e311_10 e311_11 e311_12 e311_13 e311_14 e311_15 e311_16 e311_17 e311_18 e311_19 e311_20 e311_21 e311_22 e311_23 e311_24 e311_25 e311_26 e311_27 e311_28 e311_29 R311); omega)
    have Fs311 : rR s311 15 = rR σ 15 := by first | assumption | ((try simp only [rR_sF, rR_sA, rR_sT, rR_sL] at e311_0 e311_1 e311_2 e311_3 e311_4 e311_5 e311_6 e311_7 e311_8 e311_9 e311_10 e311_11 e311_12 e311_13 e311_14 e311_15 e311_16 e311_17 e311_18 e311_19 e311_20 e311_21 e311_22 e311_23 e311_24 e311_25 e311_26 e311_27 e311_28 e311_29 R311); omega)
    have zr311 := fz_rng s311
    have zc311 : fz s311 = 0 → fz s298 = 0 := fun hf => by omega
    have A311 : Im (fz s311 = 0) (RG (RT σ) s311 (rR σ 7) 0) := fun hf => RG.trk hp_2 (I298_25 (zc311 hf)) R311 (Or.inr (Or.inl rfl))
    have Ku31 : Im (fz s311 = 0) (GK g g298 (rF σ (rR σ 7) 7) (rF s311 (rR σ 7) 7) 0) := fun hf => GK.trans (KA298 (zc311 hf)) (GK.up (N := rF s298 (rR σ 7) 7) (N' := rF s311 (rR σ 7) 7) (c := 0) (by first | assumption | omega | (simp only [rF_sT, rF_sA]; omega))) (Or.inr (Or.inl rfl))
    have Gu32 : Im (fz s311 = 0) (GS s311 (rR σ 7) g298) := fun hf => GS.mv hp_2 (G298 (zc311 hf)) R311 (by first | assumption | omega | (simp only [rF_sT, rF_sA]; omega)) (by first | (exact Int.le_of_eq (Eq.symm (by assumption))) | omega | (simp only [rF_sT, rF_sA]; omega))
    have rNMp_311 := e311_0 I298_10; clear e311_0
    have PNp_311 := e311_1 I298_11; clear e311_1
    refine ⟨(by (try simp only [rng, Ks311, Fs311]); (all_goals (repeat' (first | with_reducible intro _ | with_reducible apply And.intro | with_reducible refine Exists.intro g298 ?_ | with_reducible refine Im.and ?_ ?_))); all_goals (first | assumption | trivial | ((with_reducible refine Im.i fun hf_ => ?_); first | exact (A311 hf_) | exact (Gu32 hf_) | exact (Ku31 hf_) | exact ok1.i | (exact LI.z (fun h => absurd h (by decide))) | (exact absurd hf_ (by omega)) | omega) | (unfold FPZ; (try simp only [Ks311, Fs311]); omega) | (unfold FQZ; (try simp only [Ks311, Fs311]); omega) | omega | (have zz_ := fz_z (by assumption); omega) | (split <;> omega) | (exact TPqp.z (by first | omega | (simp only [rF_sF, Nat.reduceEqDiff, and_false, and_true, and_self, reduceIte]; omega) | simp only [rF_sF, Nat.reduceEqDiff, and_false, and_true, and_self, reduceIte])) | (exact CCp.mk (by assumption) (by first | omega | (simp only [rF_sF, Nat.reduceEqDiff, and_false, and_true, and_self, reduceIte]; omega))) | done)), ?_⟩
    exact (by (try simp only [inv_X14_readBody_298, mu_X14_readBody_298, mu_X14_readBody_298, Ks311, Fs311]); (all_goals (repeat' (first | with_reducible intro _ | with_reducible apply And.intro | with_reducible refine Exists.intro g298 ?_ | with_reducible refine Im.and ?_ ?_))); all_goals (first | assumption | trivial | ((with_reducible refine Im.i fun hf_ => ?_); first | exact (A311 hf_) | exact (Gu32 hf_) | exact (Ku31 hf_) | exact ok1.i | (exact LI.z (fun h => absurd h (by decide))) | (exact absurd hf_ (by omega)) | omega) | (unfold FPZ; (try simp only [Ks311, Fs311]); omega) | (unfold FQZ; (try simp only [Ks311, Fs311]); omega) | omega | (have zz_ := fz_z (by assumption); omega) | (split <;> omega) | (exact TPqp.z (by first | omega | (simp only [rF_sF, Nat.reduceEqDiff, and_false, and_true, and_self, reduceIte]; omega) | simp only [rF_sF, Nat.reduceEqDiff, and_false, and_true, and_self, reduceIte])) | (exact CCp.mk (by assumption) (by first | omega | (simp only [rF_sF, Nat.reduceEqDiff, and_false, and_true, and_self, reduceIte]; omega))) | done))
set_option maxRecDepth 20000 in
set_option maxHeartbeats 20000000 in
theorem vX14_readBody_298m (σ : rS) (gg : Nat) (U : Int) (g : Nat → Int → Int) (hwf : rWF σ) (hp : pre_X14_readBody σ gg U g) : VC_X14_readBody_298m σ gg U g := by
  unfold pre_X14_readBody at hp
  obtain ⟨hp_1, hp_2, hp_3, hp_4, hp_5, hp_6, hp_7, hp_8⟩ := hp
  subst hp_1
  have hF := hp_3
  unfold FPZ at hF
  have zr0 := fz_rng σ
  unfold VC_X14_readBody_298m
  (try simp only [inv_X14_readBody_298, mu_X14_readBody_298]); (all_goals (repeat' (first | with_reducible intro _ | with_reducible apply And.intro))); all_goals (first | assumption | omega | grind (splits := 20))
set_option maxRecDepth 20000 in
set_option maxHeartbeats 20000000 in
theorem vX14_readBody_268 (σ : rS) (gg : Nat) (U : Int) (g : Nat → Int → Int) (hwf : rWF σ) (hp : pre_X14_readBody σ gg U g) : VC_X14_readBody_268 σ gg U g (post_X14_readBody σ gg U g) := by
  unfold pre_X14_readBody at hp
  obtain ⟨hp_1, hp_2, hp_3, hp_4, hp_5, hp_6, hp_7, hp_8⟩ := hp
  subst hp_1
  have hF := hp_3
  unfold FPZ at hF
  have zr0 := fz_rng σ
  unfold VC_X14_readBody_268
  intro s268 y268_1 y268_2 Ws268 hy268_1 hy268_2 e268_0 e268_1 e268_2 e268_3 e268_4 e268_5 e268_6 I268
  have Ks268 : rR s268 7 = rR σ 7 := by omega
  have Fs268 : rR s268 15 = rR σ 15 := by omega
  unfold inv_X14_readBody_268 at I268
  obtain ⟨I268_1, I268_2, I268_3, I268_4, I268_5, I268_6, I268_7, I268_8, I268_9, I268_10, I268_11, I268_12, I268_13, I268_14, I268_15, I268_16, I268_17, I268_18, I268_19, I268_20, I268_21⟩ := I268
  (try simp only [Ks268, Fs268, FPZ, FQZ] at I268_1 I268_2 I268_3 I268_4 I268_5 I268_6 I268_7 I268_8 I268_9 I268_10 I268_11 I268_12 I268_13 I268_14 I268_15 I268_16 I268_17 I268_18 I268_19 I268_20 I268_21)
  have zr268 := fz_rng s268
  obtain ⟨g268, X268⟩ := I268_21
  have G268 : Im (fz s268 = 0) _ := fun hf => (X268 hf).1
  have KA268 : Im (fz s268 = 0) _ := fun hf => (X268 hf).2.1
  exact (by (try simp only [inv_X14_readBody_298, Ks268, Fs268]); (all_goals (repeat' (first | with_reducible intro _ | with_reducible apply And.intro | with_reducible refine Exists.intro g268 ?_ | with_reducible refine Im.and ?_ ?_))); all_goals (first | assumption | trivial | ((with_reducible refine Im.i fun hf_ => ?_); first | exact (I268_20 hf_) | exact (G268 hf_) | exact (KA268 hf_) | exact ok1.i | (exact LI.z (fun h => absurd h (by decide))) | (exact absurd hf_ (by omega)) | omega) | (unfold FPZ; (try simp only [Ks268, Fs268]); omega) | (unfold FQZ; (try simp only [Ks268, Fs268]); omega) | omega | (have zz_ := fz_z (by assumption); omega) | (split <;> omega) | (exact TPqp.z (by first | omega | (simp only [rF_sF, Nat.reduceEqDiff, and_false, and_true, and_self, reduceIte]; omega) | simp only [rF_sF, Nat.reduceEqDiff, and_false, and_true, and_self, reduceIte])) | (exact CCp.mk (by assumption) (by first | omega | (simp only [rF_sF, Nat.reduceEqDiff, and_false, and_true, and_self, reduceIte]; omega))) | done))
set_option maxRecDepth 20000 in
set_option maxHeartbeats 20000000 in
theorem vX14_readBody_247 (σ : rS) (gg : Nat) (U : Int) (g : Nat → Int → Int) (hwf : rWF σ) (hp : pre_X14_readBody σ gg U g) : VC_X14_readBody_247 σ gg U g (post_X14_readBody σ gg U g) := by
  unfold pre_X14_readBody at hp
  obtain ⟨hp_1, hp_2, hp_3, hp_4, hp_5, hp_6, hp_7, hp_8⟩ := hp
  subst hp_1
  have hF := hp_3
  unfold FPZ at hF
  have zr0 := fz_rng σ
  unfold VC_X14_readBody_247
  intro s247 y247_1 y247_2 Ws247 hy247_1 hy247_2 e247_0 e247_1 e247_2 e247_3 e247_4 e247_5 e247_6 I247
  have Ks247 : rR s247 7 = rR σ 7 := by omega
  have Fs247 : rR s247 15 = rR σ 15 := by omega
  unfold inv_X14_readBody_247 at I247
  obtain ⟨I247_1, I247_2, I247_3, I247_4, I247_5, I247_6, I247_7, I247_8, I247_9, I247_10, I247_11, I247_12, I247_13, I247_14, I247_15, I247_16, I247_17, I247_18, I247_19, I247_20, I247_21⟩ := I247
  (try simp only [Ks247, Fs247, FPZ, FQZ] at I247_1 I247_2 I247_3 I247_4 I247_5 I247_6 I247_7 I247_8 I247_9 I247_10 I247_11 I247_12 I247_13 I247_14 I247_15 I247_16 I247_17 I247_18 I247_19 I247_20 I247_21)
  have zr247 := fz_rng s247
  obtain ⟨g247, X247⟩ := I247_21
  have G247 : Im (fz s247 = 0) _ := fun hf => (X247 hf).1
  have KA247 : Im (fz s247 = 0) _ := fun hf => (X247 hf).2.1
  refine ⟨fun c249 => ?_, fun c249 => ?_⟩
  · exact (by (try simp only [inv_X14_readBody_268, Ks247, Fs247]); (all_goals (repeat' (first | with_reducible intro _ | with_reducible apply And.intro | with_reducible refine Exists.intro g247 ?_ | with_reducible refine Im.and ?_ ?_))); all_goals (first | assumption | trivial | ((with_reducible refine Im.i fun hf_ => ?_); first | exact (I247_20 hf_) | exact (G247 hf_) | exact (KA247 hf_) | exact ok1.i | (exact LI.z (fun h => absurd h (by decide))) | (exact absurd hf_ (by omega)) | omega) | (unfold FPZ; (try simp only [Ks247, Fs247]); omega) | (unfold FQZ; (try simp only [Ks247, Fs247]); omega) | omega | (have zz_ := fz_z (by assumption); omega) | (split <;> omega) | (exact TPqp.z (by first | omega | (simp only [rF_sF, Nat.reduceEqDiff, and_false, and_true, and_self, reduceIte]; omega) | simp only [rF_sF, Nat.reduceEqDiff, and_false, and_true, and_self, reduceIte])) | (exact CCp.mk (by assumption) (by first | omega | (simp only [rF_sF, Nat.reduceEqDiff, and_false, and_true, and_self, reduceIte]; omega))) | done))
  · refine ⟨(by (try simp only [Ks247, Fs247]); (all_goals (repeat' (first | with_reducible intro _ | with_reducible apply And.intro | with_reducible refine Exists.intro g247 ?_ | with_reducible refine Im.and ?_ ?_))); all_goals (first | assumption | trivial | ((with_reducible refine Im.i fun hf_ => ?_); first | exact (I247_20 hf_) | exact (G247 hf_) | exact (KA247 hf_) | exact ok1.i | (exact LI.z (fun h => absurd h (by decide))) | (exact absurd hf_ (by omega)) | omega) | (unfold FPZ; (try simp only [Ks247, Fs247]); omega) | (unfold FQZ; (try simp only [Ks247, Fs247]); omega) | omega | (have zz_ := fz_z (by assumption); omega) | (split <;> omega) | (exact TPqp.z (by first | omega | (simp only [rF_sF, Nat.reduceEqDiff, and_false, and_true, and_self, reduceIte]; omega) | simp only [rF_sF, Nat.reduceEqDiff, and_false, and_true, and_self, reduceIte])) | (exact CCp.mk (by assumption) (by first | omega | (simp only [rF_sF, Nat.reduceEqDiff, and_false, and_true, and_self, reduceIte]; omega))) | done)), ?_⟩
    refine ⟨(by (try simp only [Ks247, Fs247]); (all_goals (repeat' (first | with_reducible intro _ | with_reducible apply And.intro | with_reducible refine Exists.intro g247 ?_ | with_reducible refine Im.and ?_ ?_))); all_goals (first | assumption | trivial | ((with_reducible refine Im.i fun hf_ => ?_); first | exact (I247_20 hf_) | exact (G247 hf_) | exact (KA247 hf_) | exact ok1.i | (exact LI.z (fun h => absurd h (by decide))) | (exact absurd hf_ (by omega)) | omega) | (unfold FPZ; (try simp only [Ks247, Fs247]); omega) | (unfold FQZ; (try simp only [Ks247, Fs247]); omega) | omega | (have zz_ := fz_z (by assumption); omega) | (split <;> omega) | (exact TPqp.z (by first | omega | (simp only [rF_sF, Nat.reduceEqDiff, and_false, and_true, and_self, reduceIte]; omega) | simp only [rF_sF, Nat.reduceEqDiff, and_false, and_true, and_self, reduceIte])) | (exact CCp.mk (by assumption) (by first | omega | (simp only [rF_sF, Nat.reduceEqDiff, and_false, and_true, and_self, reduceIte]; omega))) | done)), ?_⟩
    intro hr_; unfold rng at hr_
    refine ⟨fun c262 => ?_, fun c262 => ?_⟩
    · exact (by (try simp only [inv_X14_readBody_268, Ks247, Fs247]); (all_goals (repeat' (first | with_reducible intro _ | with_reducible apply And.intro | with_reducible refine Exists.intro g247 ?_ | with_reducible refine Im.and ?_ ?_))); all_goals (first | assumption | trivial | ((with_reducible refine Im.i fun hf_ => ?_); first | exact (I247_20 hf_) | exact (G247 hf_) | exact (KA247 hf_) | exact ok1.i | (exact LI.z (fun h => absurd h (by decide))) | (exact absurd hf_ (by omega)) | omega) | (unfold FPZ; (try simp only [Ks247, Fs247]); omega) | (unfold FQZ; (try simp only [Ks247, Fs247]); omega) | omega | (have zz_ := fz_z (by assumption); omega) | (split <;> omega) | (exact TPqp.z (by first | omega | (simp only [rF_sF, Nat.reduceEqDiff, and_false, and_true, and_self, reduceIte]; omega) | simp only [rF_sF, Nat.reduceEqDiff, and_false, and_true, and_self, reduceIte])) | (exact CCp.mk (by assumption) (by first | omega | (simp only [rF_sF, Nat.reduceEqDiff, and_false, and_true, and_self, reduceIte]; omega))) | done))
    · refine ⟨(by (try simp only [rng, Ks247, Fs247]); (all_goals (repeat' (first | with_reducible intro _ | with_reducible apply And.intro | with_reducible refine Exists.intro g247 ?_ | with_reducible refine Im.and ?_ ?_))); all_goals (first | assumption | trivial | ((with_reducible refine Im.i fun hf_ => ?_); first | exact (I247_20 hf_) | exact (G247 hf_) | exact (KA247 hf_) | exact ok1.i | (exact LI.z (fun h => absurd h (by decide))) | (exact absurd hf_ (by omega)) | omega) | (unfold FPZ; (try simp only [Ks247, Fs247]); omega) | (unfold FQZ; (try simp only [Ks247, Fs247]); omega) | omega | (have zz_ := fz_z (by assumption); omega) | (split <;> omega) | (exact TPqp.z (by first | omega | (simp only [rF_sF, Nat.reduceEqDiff, and_false, and_true, and_self, reduceIte]; omega) | simp only [rF_sF, Nat.reduceEqDiff, and_false, and_true, and_self, reduceIte])) | (exact CCp.mk (by assumption) (by first | omega | (simp only [rF_sF, Nat.reduceEqDiff, and_false, and_true, and_self, reduceIte]; omega))) | done)), ?_⟩
      exact (by (try simp only [inv_X14_readBody_268, Ks247, Fs247]); (all_goals (repeat' (first | with_reducible intro _ | with_reducible apply And.intro | with_reducible refine Exists.intro g247 ?_ | with_reducible refine Im.and ?_ ?_))); all_goals (first | assumption | trivial | ((with_reducible refine Im.i fun hf_ => ?_); first | exact (I247_20 hf_) | exact (G247 hf_) | exact (KA247 hf_) | exact ok1.i | (exact LI.z (fun h => absurd h (by decide))) | (exact absurd hf_ (by omega)) | omega) | (unfold FPZ; (try simp only [Ks247, Fs247]); omega) | (unfold FQZ; (try simp only [Ks247, Fs247]); omega) | omega | (have zz_ := fz_z (by assumption); omega) | (split <;> omega) | (exact TPqp.z (by first | omega | (simp only [rF_sF, Nat.reduceEqDiff, and_false, and_true, and_self, reduceIte]; omega) | simp only [rF_sF, Nat.reduceEqDiff, and_false, and_true, and_self, reduceIte])) | (exact CCp.mk (by assumption) (by first | omega | (simp only [rF_sF, Nat.reduceEqDiff, and_false, and_true, and_self, reduceIte]; omega))) | done))
set_option maxRecDepth 20000 in
set_option maxHeartbeats 20000000 in
theorem vX14_readBody_188 (σ : rS) (gg : Nat) (U : Int) (g : Nat → Int → Int) (hwf : rWF σ) (hp : pre_X14_readBody σ gg U g) : VC_X14_readBody_188 σ gg U g (post_X14_readBody σ gg U g) := by
  unfold pre_X14_readBody at hp
  obtain ⟨hp_1, hp_2, hp_3, hp_4, hp_5, hp_6, hp_7, hp_8⟩ := hp
  subst hp_1
  have hF := hp_3
  unfold FPZ at hF
  have zr0 := fz_rng σ
  unfold VC_X14_readBody_188
  intro s188 y188_1 y188_2 y188_3 Ws188 hy188_1 hy188_2 hy188_3 e188_0 e188_1 e188_2 e188_3 e188_4 e188_5 e188_6 I188
  have Ks188 : rR s188 7 = rR σ 7 := by omega
  have Fs188 : rR s188 15 = rR σ 15 := by omega
  unfold inv_X14_readBody_188 at I188
  obtain ⟨I188_1, I188_2, I188_3, I188_4, I188_5, I188_6, I188_7, I188_8, I188_9, I188_10, I188_11, I188_12, I188_13, I188_14, I188_15, I188_16, I188_17, I188_18, I188_19, I188_20, I188_21⟩ := I188
  (try simp only [Ks188, Fs188, FPZ, FQZ] at I188_1 I188_2 I188_3 I188_4 I188_5 I188_6 I188_7 I188_8 I188_9 I188_10 I188_11 I188_12 I188_13 I188_14 I188_15 I188_16 I188_17 I188_18 I188_19 I188_20 I188_21)
  have zr188 := fz_rng s188
  obtain ⟨g188, X188⟩ := I188_21
  have G188 : Im (fz s188 = 0) _ := fun hf => (X188 hf).1
  have KA188 : Im (fz s188 = 0) _ := fun hf => (X188 hf).2.1
  intro hr_; unfold rng at hr_
  refine ⟨fun c193 => ?_, fun c193 => ?_⟩
  · refine ⟨(by (try simp only [rng, Ks188, Fs188]); (all_goals (repeat' (first | with_reducible intro _ | with_reducible apply And.intro | with_reducible refine Exists.intro g188 ?_ | with_reducible refine Im.and ?_ ?_))); all_goals (first | assumption | trivial | ((with_reducible refine Im.i fun hf_ => ?_); first | exact (I188_20 hf_) | exact (G188 hf_) | exact (KA188 hf_) | exact ok1.i | (exact LI.z (fun h => absurd h (by decide))) | (exact absurd hf_ (by omega)) | omega) | (unfold FPZ; (try simp only [Ks188, Fs188]); omega) | (unfold FQZ; (try simp only [Ks188, Fs188]); omega) | omega | (have zz_ := fz_z (by assumption); omega) | (split <;> omega) | (exact TPqp.z (by first | omega | (simp only [rF_sF, Nat.reduceEqDiff, and_false, and_true, and_self, reduceIte]; omega) | simp only [rF_sF, Nat.reduceEqDiff, and_false, and_true, and_self, reduceIte])) | (exact CCp.mk (by assumption) (by first | omega | (simp only [rF_sF, Nat.reduceEqDiff, and_false, and_true, and_self, reduceIte]; omega))) | done)), ?_⟩
    refine ⟨fun c220 => ?_, fun c220 => ?_⟩
    · refine ⟨(by (try simp only [pre_X14_packed_f, reduceIte, and_true, true_and, and_false, false_and, and_self, Nat.reduceEqDiff, fz_sF17, rF_sF, rA_sF, rR_sF, tr_sF, rNMp_sF, PNp_sF, GS_F17, OP_F17, NR_F17, LI_F17, RG_l17, RG_r17, TPRp_sF17, WNp_sF17, VMp_sF17, KYp_sF17, PPp_sF17, WFp_sF17, CCp_sF17, fz_sF30, GS_F30, OP_F30, NR_F30, LI_F30, RG_l30, RG_r30, WNp_sF30, VMp_sF30, KYp_sF30, PPp_sF30, WFp_sF30, rk_n0 hp_2, Ks188, Fs188]); (all_goals (repeat' (first | with_reducible intro _ | with_reducible apply And.intro | with_reducible refine Exists.intro g188 ?_ | with_reducible refine Im.and ?_ ?_))); all_goals (first | assumption | trivial | ((with_reducible refine Im.i fun hf_ => ?_); first | exact (I188_20 hf_) | exact (G188 hf_) | exact (KA188 hf_) | exact ok1.i | (exact LI.z (fun h => absurd h (by decide))) | (exact absurd hf_ (by omega)) | omega) | (unfold FPZ; (try simp only [reduceIte, and_true, true_and, and_false, false_and, and_self, Nat.reduceEqDiff, fz_sF17, rF_sF, rA_sF, rR_sF, tr_sF, rNMp_sF, PNp_sF, GS_F17, OP_F17, NR_F17, LI_F17, RG_l17, RG_r17, TPRp_sF17, WNp_sF17, VMp_sF17, KYp_sF17, PPp_sF17, WFp_sF17, CCp_sF17, fz_sF30, GS_F30, OP_F30, NR_F30, LI_F30, RG_l30, RG_r30, WNp_sF30, VMp_sF30, KYp_sF30, PPp_sF30, WFp_sF30, rk_n0 hp_2, Ks188, Fs188]); omega) | (unfold FQZ; (try simp only [reduceIte, and_true, true_and, and_false, false_and, and_self, Nat.reduceEqDiff, fz_sF17, rF_sF, rA_sF, rR_sF, tr_sF, rNMp_sF, PNp_sF, GS_F17, OP_F17, NR_F17, LI_F17, RG_l17, RG_r17, TPRp_sF17, WNp_sF17, VMp_sF17, KYp_sF17, PPp_sF17, WFp_sF17, CCp_sF17, fz_sF30, GS_F30, OP_F30, NR_F30, LI_F30, RG_l30, RG_r30, WNp_sF30, VMp_sF30, KYp_sF30, PPp_sF30, WFp_sF30, rk_n0 hp_2, Ks188, Fs188]); omega) | omega | (have zz_ := fz_z (by assumption); omega) | (split <;> omega) | (exact TPqp.z (by first | omega | (simp only [rF_sF, Nat.reduceEqDiff, and_false, and_true, and_self, reduceIte]; omega) | simp only [rF_sF, Nat.reduceEqDiff, and_false, and_true, and_self, reduceIte])) | (exact CCp.mk (by assumption) (by first | omega | (simp only [rF_sF, Nat.reduceEqDiff, and_false, and_true, and_self, reduceIte]; omega))) | done)), ?_⟩
      intro s274 Ws274 e274_0 e274_1 e274_2 e274_3 e274_4 e274_5 e274_6 e274_7 e274_8 e274_9 e274_10 e274_11 e274_12 e274_13 e274_14 e274_15 e274_16 e274_17 e274_18 e274_19 e274_20 e274_21 e274_22 e274_23 e274_24 e274_25 e274_26 e274_27 e274_28 e274_29 R274 q274
      unfold post_X14_packed_f at q274
      obtain ⟨q274_1, q274_2, q274_3⟩ := q274
      (try simp only [reduceIte, and_true, true_and, and_false, false_and, and_self, Nat.reduceEqDiff, fz_sF17, rF_sF, rA_sF, rR_sF, tr_sF, rNMp_sF, PNp_sF, GS_F17, OP_F17, NR_F17, LI_F17, RG_l17, RG_r17, TPRp_sF17, WNp_sF17, VMp_sF17, KYp_sF17, PPp_sF17, WFp_sF17, CCp_sF17, fz_sF30, GS_F30, OP_F30, NR_F30, LI_F30, RG_l30, RG_r30, WNp_sF30, VMp_sF30, KYp_sF30, PPp_sF30, WFp_sF30, rk_n0 hp_2, Ks188, Fs188, FPZ, FQZ] at q274_1 q274_2 q274_3 e274_0 e274_1 e274_2 e274_3 e274_4 e274_5 e274_6 e274_7 e274_8 e274_9 e274_10 e274_11 e274_12 e274_13 e274_14 e274_15 e274_16 e274_17 e274_18 e274_19 e274_20 e274_21 e274_22 e274_23 e274_24 e274_25 e274_26 e274_27 e274_28 e274_29 R274)
      have Ks274 : rR s274 7 = rR σ 7 := by first | assumption | ((try simp only [rR_sF, rR_sA, rR_sT, rR_sL] at e274_0 e274_1 e274_2 e274_3 e274_4 e274_5 e274_6 e274_7 e274_8 e274_9 e274_10 e274_11 e274_12 e274_13 e274_14 e274_15 e274_16 e274_17 e274_18 e274_19 e274_20 e274_21 e274_22 e274_23 e274_24 e274_25 e274_26 e274_27 e274_28 e274_29 R274); omega)
      have Fs274 : rR s274 15 = rR σ 15 := by first | assumption | ((try simp only [rR_sF, rR_sA, rR_sT, rR_sL] at e274_0 e274_1 e274_2 e274_3 e274_4 e274_5 e274_6 e274_7 e274_8 e274_9 e274_10 e274_11 e274_12 e274_13 e274_14 e274_15 e274_16 e274_17 e274_18 e274_19 e274_20 e274_21 e274_22 e274_23 e274_24 e274_25 e274_26 e274_27 e274_28 e274_29 R274); omega)
      have zr274 := fz_rng s274
      have zc274 : fz s274 = 0 → fz s188 = 0 := fun hf => by omega
      have A274 : Im (fz s274 = 0) (RG (RT σ) s274 (rR σ 7) 0) := fun hf => RG.trk hp_2 (I188_20 (zc274 hf)) R274 (Or.inr (Or.inl rfl))
      have Ku15 : Im (fz s274 = 0) (GK g g188 (rF σ (rR σ 7) 7) (rF s274 (rR σ 7) 7) 0) := fun hf => GK.trans (KA188 (zc274 hf)) (GK.up (N := rF s188 (rR σ 7) 7) (N' := rF s274 (rR σ 7) 7) (c := 0) (by first | assumption | omega | (simp only [rF_sT, rF_sA]; omega))) (Or.inr (Or.inl rfl))
      have Gu16 : Im (fz s274 = 0) (GS s274 (rR σ 7) g188) := fun hf => GS.mv hp_2 (G188 (zc274 hf)) R274 (by first | assumption | omega | (simp only [rF_sT, rF_sA]; omega)) (by first | (exact Int.le_of_eq (Eq.symm (by assumption))) | omega | (simp only [rF_sT, rF_sA]; omega))
      have rNMp_274 := e274_0 I188_10; clear e274_0
      have PNp_274 := e274_1 I188_11; clear e274_1
      refine ⟨g188, ?_⟩
      refine ⟨(by (try simp only [pre_X14_wholeText, Ks274, Fs274]); (all_goals (repeat' (first | with_reducible intro _ | with_reducible apply And.intro | with_reducible refine Exists.intro g188 ?_ | with_reducible refine Im.and ?_ ?_))); all_goals (first | assumption | trivial | ((with_reducible refine Im.i fun hf_ => ?_); first | exact (A274 hf_) | exact (Gu16 hf_) | exact (Ku15 hf_) | exact ok1.i | (exact LI.z (fun h => absurd h (by decide))) | (exact absurd hf_ (by omega)) | omega) | (unfold FPZ; (try simp only [Ks274, Fs274]); omega) | (unfold FQZ; (try simp only [Ks274, Fs274]); omega) | omega | (have zz_ := fz_z (by assumption); omega) | (split <;> omega) | (exact TPqp.z (by first | omega | (simp only [rF_sF, Nat.reduceEqDiff, and_false, and_true, and_self, reduceIte]; omega) | simp only [rF_sF, Nat.reduceEqDiff, and_false, and_true, and_self, reduceIte])) | (exact CCp.mk (by assumption) (by first | omega | (simp only [rF_sF, Nat.reduceEqDiff, and_false, and_true, and_self, reduceIte]; omega))) | done)), ?_⟩
      intro v278 s278 hv278 Ws278 e278_0 e278_1 e278_2 e278_3 e278_4 e278_5 e278_6 e278_7 e278_8 e278_9 e278_10 e278_11 e278_12 e278_13 e278_14 q278
      unfold rng at hv278
      unfold post_X14_wholeText at q278
      obtain ⟨q278_1, q278_2, q278_3, q278_4, q278_5, q278_6, q278_7, q278_8, q278_9, q278_10, q278_11, q278_12, q278_13, q278_14, q278_15, q278_16, q278_17, q278_18, q278_19⟩ := q278
      (try simp only [Ks274, Fs274, FPZ, FQZ] at q278_1 q278_2 q278_3 q278_4 q278_5 q278_6 q278_7 q278_8 q278_9 q278_10 q278_11 q278_12 q278_13 q278_14 q278_15 q278_16 q278_17 q278_18 q278_19 e278_0 e278_1 e278_2 e278_3 e278_4 e278_5 e278_6 e278_7 e278_8 e278_9 e278_10 e278_11 e278_12 e278_13 e278_14)
      have Ks278 : rR s278 7 = rR σ 7 := by first | assumption | ((try simp only [rR_sF, rR_sA, rR_sT, rR_sL] at e278_0 e278_1 e278_2 e278_3 e278_4 e278_5 e278_6 e278_7 e278_8 e278_9 e278_10 e278_11 e278_12 e278_13 e278_14); omega)
      have Fs278 : rR s278 15 = rR σ 15 := by first | assumption | ((try simp only [rR_sF, rR_sA, rR_sT, rR_sL] at e278_0 e278_1 e278_2 e278_3 e278_4 e278_5 e278_6 e278_7 e278_8 e278_9 e278_10 e278_11 e278_12 e278_13 e278_14); omega)
      have zr278 := fz_rng s278
      have zc278 : fz s278 = 0 → fz s274 = 0 := fun hf => by omega
      have A278 : Im (fz s278 = 0) (RG (RT σ) s278 (rR σ 7) 0) := fun hf => RG.tt (q278_18 (by omega)) (A274 (zc278 hf))
      obtain ⟨g278, X278⟩ := q278_19
      have Ku17 : Im (fz s278 = 0) (GK g g278 (rF σ (rR σ 7) 7) (rF s278 (rR σ 7) 7) 0) := fun hf => GK.trans (Ku15 (zc278 hf)) ((X278 hf).2.1) (Or.inr (Or.inl rfl))
      have Gu18 : Im (fz s278 = 0) (GS s278 (rR σ 7) g278) := fun hf => (X278 hf).1
      have r278 : Im (fz s278 = 0) _ := fun hf => (X278 hf).2.2.1
      clear e278_0
      exact (by (try simp only [post_X14_readBody, Ks278, Fs278]); (all_goals (repeat' (first | with_reducible intro _ | with_reducible apply And.intro | with_reducible refine Exists.intro g278 ?_ | with_reducible refine Im.and ?_ ?_))); all_goals (first | assumption | trivial | ((with_reducible refine Im.i fun hf_ => ?_); first | exact (A278 hf_) | exact (Gu18 hf_) | exact (Ku17 hf_) | exact (r278 hf_).cst | exact ok1.i | (exact LI.z (fun h => absurd h (by decide))) | (exact absurd hf_ (by omega)) | omega) | (unfold FPZ; (try simp only [Ks278, Fs278]); omega) | (unfold FQZ; (try simp only [Ks278, Fs278]); omega) | omega | (have zz_ := fz_z (by assumption); omega) | (split <;> omega) | (exact TPqp.z (by first | omega | (simp only [rF_sF, Nat.reduceEqDiff, and_false, and_true, and_self, reduceIte]; omega) | simp only [rF_sF, Nat.reduceEqDiff, and_false, and_true, and_self, reduceIte])) | (exact CCp.mk (by assumption) (by first | omega | (simp only [rF_sF, Nat.reduceEqDiff, and_false, and_true, and_self, reduceIte]; omega))) | done))
    · refine ⟨(by (try simp only [rng, reduceIte, and_true, true_and, and_false, false_and, and_self, Nat.reduceEqDiff, fz_sF17, rF_sF, rA_sF, rR_sF, tr_sF, rNMp_sF, PNp_sF, GS_F17, OP_F17, NR_F17, LI_F17, RG_l17, RG_r17, TPRp_sF17, WNp_sF17, VMp_sF17, KYp_sF17, PPp_sF17, WFp_sF17, CCp_sF17, fz_sF30, GS_F30, OP_F30, NR_F30, LI_F30, RG_l30, RG_r30, WNp_sF30, VMp_sF30, KYp_sF30, PPp_sF30, WFp_sF30, rk_n0 hp_2, Ks188, Fs188]); (all_goals (repeat' (first | with_reducible intro _ | with_reducible apply And.intro | with_reducible refine Exists.intro g188 ?_ | with_reducible refine Im.and ?_ ?_))); all_goals (first | assumption | trivial | ((with_reducible refine Im.i fun hf_ => ?_); first | exact (I188_20 hf_) | exact (G188 hf_) | exact (KA188 hf_) | exact ok1.i | (exact LI.z (fun h => absurd h (by decide))) | (exact absurd hf_ (by omega)) | omega) | (unfold FPZ; (try simp only [reduceIte, and_true, true_and, and_false, false_and, and_self, Nat.reduceEqDiff, fz_sF17, rF_sF, rA_sF, rR_sF, tr_sF, rNMp_sF, PNp_sF, GS_F17, OP_F17, NR_F17, LI_F17, RG_l17, RG_r17, TPRp_sF17, WNp_sF17, VMp_sF17, KYp_sF17, PPp_sF17, WFp_sF17, CCp_sF17, fz_sF30, GS_F30, OP_F30, NR_F30, LI_F30, RG_l30, RG_r30, WNp_sF30, VMp_sF30, KYp_sF30, PPp_sF30, WFp_sF30, rk_n0 hp_2, Ks188, Fs188]); omega) | (unfold FQZ; (try simp only [reduceIte, and_true, true_and, and_false, false_and, and_self, Nat.reduceEqDiff, fz_sF17, rF_sF, rA_sF, rR_sF, tr_sF, rNMp_sF, PNp_sF, GS_F17, OP_F17, NR_F17, LI_F17, RG_l17, RG_r17, TPRp_sF17, WNp_sF17, VMp_sF17, KYp_sF17, PPp_sF17, WFp_sF17, CCp_sF17, fz_sF30, GS_F30, OP_F30, NR_F30, LI_F30, RG_l30, RG_r30, WNp_sF30, VMp_sF30, KYp_sF30, PPp_sF30, WFp_sF30, rk_n0 hp_2, Ks188, Fs188]); omega) | omega | (have zz_ := fz_z (by assumption); omega) | (split <;> omega) | (exact TPqp.z (by first | omega | (simp only [rF_sF, Nat.reduceEqDiff, and_false, and_true, and_self, reduceIte]; omega) | simp only [rF_sF, Nat.reduceEqDiff, and_false, and_true, and_self, reduceIte])) | (exact CCp.mk (by assumption) (by first | omega | (simp only [rF_sF, Nat.reduceEqDiff, and_false, and_true, and_self, reduceIte]; omega))) | done)), ?_⟩
      refine ⟨fun c230 => ?_, fun c230 => ?_⟩
      · exact (by (try simp only [inv_X14_readBody_247, reduceIte, and_true, true_and, and_false, false_and, and_self, Nat.reduceEqDiff, fz_sF17, rF_sF, rA_sF, rR_sF, tr_sF, rNMp_sF, PNp_sF, GS_F17, OP_F17, NR_F17, LI_F17, RG_l17, RG_r17, TPRp_sF17, WNp_sF17, VMp_sF17, KYp_sF17, PPp_sF17, WFp_sF17, CCp_sF17, fz_sF30, GS_F30, OP_F30, NR_F30, LI_F30, RG_l30, RG_r30, WNp_sF30, VMp_sF30, KYp_sF30, PPp_sF30, WFp_sF30, rk_n0 hp_2, Ks188, Fs188]); (all_goals (repeat' (first | with_reducible intro _ | with_reducible apply And.intro | with_reducible refine Exists.intro g188 ?_ | with_reducible refine Im.and ?_ ?_))); all_goals (first | assumption | trivial | ((with_reducible refine Im.i fun hf_ => ?_); first | exact (I188_20 hf_) | exact (G188 hf_) | exact (KA188 hf_) | exact ok1.i | (exact LI.z (fun h => absurd h (by decide))) | (exact absurd hf_ (by omega)) | omega) | (unfold FPZ; (try simp only [reduceIte, and_true, true_and, and_false, false_and, and_self, Nat.reduceEqDiff, fz_sF17, rF_sF, rA_sF, rR_sF, tr_sF, rNMp_sF, PNp_sF, GS_F17, OP_F17, NR_F17, LI_F17, RG_l17, RG_r17, TPRp_sF17, WNp_sF17, VMp_sF17, KYp_sF17, PPp_sF17, WFp_sF17, CCp_sF17, fz_sF30, GS_F30, OP_F30, NR_F30, LI_F30, RG_l30, RG_r30, WNp_sF30, VMp_sF30, KYp_sF30, PPp_sF30, WFp_sF30, rk_n0 hp_2, Ks188, Fs188]); omega) | (unfold FQZ; (try simp only [reduceIte, and_true, true_and, and_false, false_and, and_self, Nat.reduceEqDiff, fz_sF17, rF_sF, rA_sF, rR_sF, tr_sF, rNMp_sF, PNp_sF, GS_F17, OP_F17, NR_F17, LI_F17, RG_l17, RG_r17, TPRp_sF17, WNp_sF17, VMp_sF17, KYp_sF17, PPp_sF17, WFp_sF17, CCp_sF17, fz_sF30, GS_F30, OP_F30, NR_F30, LI_F30, RG_l30, RG_r30, WNp_sF30, VMp_sF30, KYp_sF30, PPp_sF30, WFp_sF30, rk_n0 hp_2, Ks188, Fs188]); omega) | omega | (have zz_ := fz_z (by assumption); omega) | (split <;> omega) | (exact TPqp.z (by first | omega | (simp only [rF_sF, Nat.reduceEqDiff, and_false, and_true, and_self, reduceIte]; omega) | simp only [rF_sF, Nat.reduceEqDiff, and_false, and_true, and_self, reduceIte])) | (exact CCp.mk (by assumption) (by first | omega | (simp only [rF_sF, Nat.reduceEqDiff, and_false, and_true, and_self, reduceIte]; omega))) | done))
      · refine ⟨(by (try simp only [reduceIte, and_true, true_and, and_false, false_and, and_self, Nat.reduceEqDiff, fz_sF17, rF_sF, rA_sF, rR_sF, tr_sF, rNMp_sF, PNp_sF, GS_F17, OP_F17, NR_F17, LI_F17, RG_l17, RG_r17, TPRp_sF17, WNp_sF17, VMp_sF17, KYp_sF17, PPp_sF17, WFp_sF17, CCp_sF17, fz_sF30, GS_F30, OP_F30, NR_F30, LI_F30, RG_l30, RG_r30, WNp_sF30, VMp_sF30, KYp_sF30, PPp_sF30, WFp_sF30, rk_n0 hp_2, Ks188, Fs188]); (all_goals (repeat' (first | with_reducible intro _ | with_reducible apply And.intro | with_reducible refine Exists.intro g188 ?_ | with_reducible refine Im.and ?_ ?_))); all_goals (first | assumption | trivial | ((with_reducible refine Im.i fun hf_ => ?_); first | exact (I188_20 hf_) | exact (G188 hf_) | exact (KA188 hf_) | exact ok1.i | (exact LI.z (fun h => absurd h (by decide))) | (exact absurd hf_ (by omega)) | omega) | (unfold FPZ; (try simp only [reduceIte, and_true, true_and, and_false, false_and, and_self, Nat.reduceEqDiff, fz_sF17, rF_sF, rA_sF, rR_sF, tr_sF, rNMp_sF, PNp_sF, GS_F17, OP_F17, NR_F17, LI_F17, RG_l17, RG_r17, TPRp_sF17, WNp_sF17, VMp_sF17, KYp_sF17, PPp_sF17, WFp_sF17, CCp_sF17, fz_sF30, GS_F30, OP_F30, NR_F30, LI_F30, RG_l30, RG_r30, WNp_sF30, VMp_sF30, KYp_sF30, PPp_sF30, WFp_sF30, rk_n0 hp_2, Ks188, Fs188]); omega) | (unfold FQZ; (try simp only [reduceIte, and_true, true_and, and_false, false_and, and_self, Nat.reduceEqDiff, fz_sF17, rF_sF, rA_sF, rR_sF, tr_sF, rNMp_sF, PNp_sF, GS_F17, OP_F17, NR_F17, LI_F17, RG_l17, RG_r17, TPRp_sF17, WNp_sF17, VMp_sF17, KYp_sF17, PPp_sF17, WFp_sF17, CCp_sF17, fz_sF30, GS_F30, OP_F30, NR_F30, LI_F30, RG_l30, RG_r30, WNp_sF30, VMp_sF30, KYp_sF30, PPp_sF30, WFp_sF30, rk_n0 hp_2, Ks188, Fs188]); omega) | omega | (have zz_ := fz_z (by assumption); omega) | (split <;> omega) | (exact TPqp.z (by first | omega | (simp only [rF_sF, Nat.reduceEqDiff, and_false, and_true, and_self, reduceIte]; omega) | simp only [rF_sF, Nat.reduceEqDiff, and_false, and_true, and_self, reduceIte])) | (exact CCp.mk (by assumption) (by first | omega | (simp only [rF_sF, Nat.reduceEqDiff, and_false, and_true, and_self, reduceIte]; omega))) | done)), ?_⟩
        refine ⟨(by (try simp only [reduceIte, and_true, true_and, and_false, false_and, and_self, Nat.reduceEqDiff, fz_sF17, rF_sF, rA_sF, rR_sF, tr_sF, rNMp_sF, PNp_sF, GS_F17, OP_F17, NR_F17, LI_F17, RG_l17, RG_r17, TPRp_sF17, WNp_sF17, VMp_sF17, KYp_sF17, PPp_sF17, WFp_sF17, CCp_sF17, fz_sF30, GS_F30, OP_F30, NR_F30, LI_F30, RG_l30, RG_r30, WNp_sF30, VMp_sF30, KYp_sF30, PPp_sF30, WFp_sF30, rk_n0 hp_2, Ks188, Fs188]); (all_goals (repeat' (first | with_reducible intro _ | with_reducible apply And.intro | with_reducible refine Exists.intro g188 ?_ | with_reducible refine Im.and ?_ ?_))); all_goals (first | assumption | trivial | ((with_reducible refine Im.i fun hf_ => ?_); first | exact (I188_20 hf_) | exact (G188 hf_) | exact (KA188 hf_) | exact ok1.i | (exact LI.z (fun h => absurd h (by decide))) | (exact absurd hf_ (by omega)) | omega) | (unfold FPZ; (try simp only [reduceIte, and_true, true_and, and_false, false_and, and_self, Nat.reduceEqDiff, fz_sF17, rF_sF, rA_sF, rR_sF, tr_sF, rNMp_sF, PNp_sF, GS_F17, OP_F17, NR_F17, LI_F17, RG_l17, RG_r17, TPRp_sF17, WNp_sF17, VMp_sF17, KYp_sF17, PPp_sF17, WFp_sF17, CCp_sF17, fz_sF30, GS_F30, OP_F30, NR_F30, LI_F30, RG_l30, RG_r30, WNp_sF30, VMp_sF30, KYp_sF30, PPp_sF30, WFp_sF30, rk_n0 hp_2, Ks188, Fs188]); omega) | (unfold FQZ; (try simp only [reduceIte, and_true, true_and, and_false, false_and, and_self, Nat.reduceEqDiff, fz_sF17, rF_sF, rA_sF, rR_sF, tr_sF, rNMp_sF, PNp_sF, GS_F17, OP_F17, NR_F17, LI_F17, RG_l17, RG_r17, TPRp_sF17, WNp_sF17, VMp_sF17, KYp_sF17, PPp_sF17, WFp_sF17, CCp_sF17, fz_sF30, GS_F30, OP_F30, NR_F30, LI_F30, RG_l30, RG_r30, WNp_sF30, VMp_sF30, KYp_sF30, PPp_sF30, WFp_sF30, rk_n0 hp_2, Ks188, Fs188]); omega) | omega | (have zz_ := fz_z (by assumption); omega) | (split <;> omega) | (exact TPqp.z (by first | omega | (simp only [rF_sF, Nat.reduceEqDiff, and_false, and_true, and_self, reduceIte]; omega) | simp only [rF_sF, Nat.reduceEqDiff, and_false, and_true, and_self, reduceIte])) | (exact CCp.mk (by assumption) (by first | omega | (simp only [rF_sF, Nat.reduceEqDiff, and_false, and_true, and_self, reduceIte]; omega))) | done)), ?_⟩
        intro hr_; unfold rng at hr_
        refine ⟨fun c241 => ?_, fun c241 => ?_⟩
        · exact (by (try simp only [inv_X14_readBody_247, reduceIte, and_true, true_and, and_false, false_and, and_self, Nat.reduceEqDiff, fz_sF17, rF_sF, rA_sF, rR_sF, tr_sF, rNMp_sF, PNp_sF, GS_F17, OP_F17, NR_F17, LI_F17, RG_l17, RG_r17, TPRp_sF17, WNp_sF17, VMp_sF17, KYp_sF17, PPp_sF17, WFp_sF17, CCp_sF17, fz_sF30, GS_F30, OP_F30, NR_F30, LI_F30, RG_l30, RG_r30, WNp_sF30, VMp_sF30, KYp_sF30, PPp_sF30, WFp_sF30, rk_n0 hp_2, Ks188, Fs188]); (all_goals (repeat' (first | with_reducible intro _ | with_reducible apply And.intro | with_reducible refine Exists.intro g188 ?_ | with_reducible refine Im.and ?_ ?_))); all_goals (first | assumption | trivial | ((with_reducible refine Im.i fun hf_ => ?_); first | exact (I188_20 hf_) | exact (G188 hf_) | exact (KA188 hf_) | exact ok1.i | (exact LI.z (fun h => absurd h (by decide))) | (exact absurd hf_ (by omega)) | omega) | (unfold FPZ; (try simp only [reduceIte, and_true, true_and, and_false, false_and, and_self, Nat.reduceEqDiff, fz_sF17, rF_sF, rA_sF, rR_sF, tr_sF, rNMp_sF, PNp_sF, GS_F17, OP_F17, NR_F17, LI_F17, RG_l17, RG_r17, TPRp_sF17, WNp_sF17, VMp_sF17, KYp_sF17, PPp_sF17, WFp_sF17, CCp_sF17, fz_sF30, GS_F30, OP_F30, NR_F30, LI_F30, RG_l30, RG_r30, WNp_sF30, VMp_sF30, KYp_sF30, PPp_sF30, WFp_sF30, rk_n0 hp_2, Ks188, Fs188]); omega) | (unfold FQZ; (try simp only [reduceIte, and_true, true_and, and_false, false_and, and_self, Nat.reduceEqDiff, fz_sF17, rF_sF, rA_sF, rR_sF, tr_sF, rNMp_sF, PNp_sF, GS_F17, OP_F17, NR_F17, LI_F17, RG_l17, RG_r17, TPRp_sF17, WNp_sF17, VMp_sF17, KYp_sF17, PPp_sF17, WFp_sF17, CCp_sF17, fz_sF30, GS_F30, OP_F30, NR_F30, LI_F30, RG_l30, RG_r30, WNp_sF30, VMp_sF30, KYp_sF30, PPp_sF30, WFp_sF30, rk_n0 hp_2, Ks188, Fs188]); omega) | omega | (have zz_ := fz_z (by assumption); omega) | (split <;> omega) | (exact TPqp.z (by first | omega | (simp only [rF_sF, Nat.reduceEqDiff, and_false, and_true, and_self, reduceIte]; omega) | simp only [rF_sF, Nat.reduceEqDiff, and_false, and_true, and_self, reduceIte])) | (exact CCp.mk (by assumption) (by first | omega | (simp only [rF_sF, Nat.reduceEqDiff, and_false, and_true, and_self, reduceIte]; omega))) | done))
        · refine ⟨(by (try simp only [rng, reduceIte, and_true, true_and, and_false, false_and, and_self, Nat.reduceEqDiff, fz_sF17, rF_sF, rA_sF, rR_sF, tr_sF, rNMp_sF, PNp_sF, GS_F17, OP_F17, NR_F17, LI_F17, RG_l17, RG_r17, TPRp_sF17, WNp_sF17, VMp_sF17, KYp_sF17, PPp_sF17, WFp_sF17, CCp_sF17, fz_sF30, GS_F30, OP_F30, NR_F30, LI_F30, RG_l30, RG_r30, WNp_sF30, VMp_sF30, KYp_sF30, PPp_sF30, WFp_sF30, rk_n0 hp_2, Ks188, Fs188]); (all_goals (repeat' (first | with_reducible intro _ | with_reducible apply And.intro | with_reducible refine Exists.intro g188 ?_ | with_reducible refine Im.and ?_ ?_))); all_goals (first | assumption | trivial | ((with_reducible refine Im.i fun hf_ => ?_); first | exact (I188_20 hf_) | exact (G188 hf_) | exact (KA188 hf_) | exact ok1.i | (exact LI.z (fun h => absurd h (by decide))) | (exact absurd hf_ (by omega)) | omega) | (unfold FPZ; (try simp only [reduceIte, and_true, true_and, and_false, false_and, and_self, Nat.reduceEqDiff, fz_sF17, rF_sF, rA_sF, rR_sF, tr_sF, rNMp_sF, PNp_sF, GS_F17, OP_F17, NR_F17, LI_F17, RG_l17, RG_r17, TPRp_sF17, WNp_sF17, VMp_sF17, KYp_sF17, PPp_sF17, WFp_sF17, CCp_sF17, fz_sF30, GS_F30, OP_F30, NR_F30, LI_F30, RG_l30, RG_r30, WNp_sF30, VMp_sF30, KYp_sF30, PPp_sF30, WFp_sF30, rk_n0 hp_2, Ks188, Fs188]); omega) | (unfold FQZ; (try simp only [reduceIte, and_true, true_and, and_false, false_and, and_self, Nat.reduceEqDiff, fz_sF17, rF_sF, rA_sF, rR_sF, tr_sF, rNMp_sF, PNp_sF, GS_F17, OP_F17, NR_F17, LI_F17, RG_l17, RG_r17, TPRp_sF17, WNp_sF17, VMp_sF17, KYp_sF17, PPp_sF17, WFp_sF17, CCp_sF17, fz_sF30, GS_F30, OP_F30, NR_F30, LI_F30, RG_l30, RG_r30, WNp_sF30, VMp_sF30, KYp_sF30, PPp_sF30, WFp_sF30, rk_n0 hp_2, Ks188, Fs188]); omega) | omega | (have zz_ := fz_z (by assumption); omega) | (split <;> omega) | (exact TPqp.z (by first | omega | (simp only [rF_sF, Nat.reduceEqDiff, and_false, and_true, and_self, reduceIte]; omega) | simp only [rF_sF, Nat.reduceEqDiff, and_false, and_true, and_self, reduceIte])) | (exact CCp.mk (by assumption) (by first | omega | (simp only [rF_sF, Nat.reduceEqDiff, and_false, and_true, and_self, reduceIte]; omega))) | done)), ?_⟩
          exact (by (try simp only [inv_X14_readBody_247, reduceIte, and_true, true_and, and_false, false_and, and_self, Nat.reduceEqDiff, fz_sF17, rF_sF, rA_sF, rR_sF, tr_sF, rNMp_sF, PNp_sF, GS_F17, OP_F17, NR_F17, LI_F17, RG_l17, RG_r17, TPRp_sF17, WNp_sF17, VMp_sF17, KYp_sF17, PPp_sF17, WFp_sF17, CCp_sF17, fz_sF30, GS_F30, OP_F30, NR_F30, LI_F30, RG_l30, RG_r30, WNp_sF30, VMp_sF30, KYp_sF30, PPp_sF30, WFp_sF30, rk_n0 hp_2, Ks188, Fs188]); (all_goals (repeat' (first | with_reducible intro _ | with_reducible apply And.intro | with_reducible refine Exists.intro g188 ?_ | with_reducible refine Im.and ?_ ?_))); all_goals (first | assumption | trivial | ((with_reducible refine Im.i fun hf_ => ?_); first | exact (I188_20 hf_) | exact (G188 hf_) | exact (KA188 hf_) | exact ok1.i | (exact LI.z (fun h => absurd h (by decide))) | (exact absurd hf_ (by omega)) | omega) | (unfold FPZ; (try simp only [reduceIte, and_true, true_and, and_false, false_and, and_self, Nat.reduceEqDiff, fz_sF17, rF_sF, rA_sF, rR_sF, tr_sF, rNMp_sF, PNp_sF, GS_F17, OP_F17, NR_F17, LI_F17, RG_l17, RG_r17, TPRp_sF17, WNp_sF17, VMp_sF17, KYp_sF17, PPp_sF17, WFp_sF17, CCp_sF17, fz_sF30, GS_F30, OP_F30, NR_F30, LI_F30, RG_l30, RG_r30, WNp_sF30, VMp_sF30, KYp_sF30, PPp_sF30, WFp_sF30, rk_n0 hp_2, Ks188, Fs188]); omega) | (unfold FQZ; (try simp only [reduceIte, and_true, true_and, and_false, false_and, and_self, Nat.reduceEqDiff, fz_sF17, rF_sF, rA_sF, rR_sF, tr_sF, rNMp_sF, PNp_sF, GS_F17, OP_F17, NR_F17, LI_F17, RG_l17, RG_r17, TPRp_sF17, WNp_sF17, VMp_sF17, KYp_sF17, PPp_sF17, WFp_sF17, CCp_sF17, fz_sF30, GS_F30, OP_F30, NR_F30, LI_F30, RG_l30, RG_r30, WNp_sF30, VMp_sF30, KYp_sF30, PPp_sF30, WFp_sF30, rk_n0 hp_2, Ks188, Fs188]); omega) | omega | (have zz_ := fz_z (by assumption); omega) | (split <;> omega) | (exact TPqp.z (by first | omega | (simp only [rF_sF, Nat.reduceEqDiff, and_false, and_true, and_self, reduceIte]; omega) | simp only [rF_sF, Nat.reduceEqDiff, and_false, and_true, and_self, reduceIte])) | (exact CCp.mk (by assumption) (by first | omega | (simp only [rF_sF, Nat.reduceEqDiff, and_false, and_true, and_self, reduceIte]; omega))) | done))
  · refine ⟨(by (try simp only [pre_X14_bad, Ks188, Fs188]); (all_goals (repeat' (first | with_reducible intro _ | with_reducible apply And.intro | with_reducible refine Exists.intro g188 ?_ | with_reducible refine Im.and ?_ ?_))); all_goals (first | assumption | trivial | ((with_reducible refine Im.i fun hf_ => ?_); first | exact (I188_20 hf_) | exact (G188 hf_) | exact (KA188 hf_) | exact ok1.i | (exact LI.z (fun h => absurd h (by decide))) | (exact absurd hf_ (by omega)) | omega) | (unfold FPZ; (try simp only [Ks188, Fs188]); omega) | (unfold FQZ; (try simp only [Ks188, Fs188]); omega) | omega | (have zz_ := fz_z (by assumption); omega) | (split <;> omega) | (exact TPqp.z (by first | omega | (simp only [rF_sF, Nat.reduceEqDiff, and_false, and_true, and_self, reduceIte]; omega) | simp only [rF_sF, Nat.reduceEqDiff, and_false, and_true, and_self, reduceIte])) | (exact CCp.mk (by assumption) (by first | omega | (simp only [rF_sF, Nat.reduceEqDiff, and_false, and_true, and_self, reduceIte]; omega))) | done)), ?_⟩
    intro s202 Ws202 e202_0 e202_1 e202_2 e202_3 e202_4 e202_5 e202_6 e202_7 e202_8 e202_9 e202_10 e202_11 e202_12 e202_13 e202_14 e202_15 e202_16 e202_17 e202_18 e202_19 e202_20 e202_21 e202_22 e202_23 e202_24 e202_25 e202_26 e202_27 e202_28 e202_29 e202_30 R202 q202
    have q202 := dig_bad q202 (by (try simp only [Ks188, Fs188]); omega)
    obtain ⟨q202_1, q202_2⟩ := q202
    (try simp only [Ks188, Fs188, FPZ, FQZ] at q202_1 q202_2 e202_0 e202_1 e202_2 e202_3 e202_4 e202_5 e202_6 e202_7 e202_8 e202_9 e202_10 e202_11 e202_12 e202_13 e202_14 e202_15 e202_16 e202_17 e202_18 e202_19 e202_20 e202_21 e202_22 e202_23 e202_24 e202_25 e202_26 e202_27 e202_28 e202_29 e202_30 R202)
    have Ks202 : rR s202 7 = rR σ 7 := by first | assumption | ((try simp only [rR_sF, rR_sA, rR_sT, rR_sL] at e202_0 e202_1 e202_2 e202_3 e202_4 e202_5 e202_6 e202_7 e202_8 e202_9 e202_10 e202_11 e202_12 e202_13 e202_14 e202_15 e202_16 e202_17 e202_18 e202_19 e202_20 e202_21 e202_22 e202_23 e202_24 e202_25 e202_26 e202_27 e202_28 e202_29 e202_30 R202); omega)
    have Fs202 : rR s202 15 = rR σ 15 := by first | assumption | ((try simp only [rR_sF, rR_sA, rR_sT, rR_sL] at e202_0 e202_1 e202_2 e202_3 e202_4 e202_5 e202_6 e202_7 e202_8 e202_9 e202_10 e202_11 e202_12 e202_13 e202_14 e202_15 e202_16 e202_17 e202_18 e202_19 e202_20 e202_21 e202_22 e202_23 e202_24 e202_25 e202_26 e202_27 e202_28 e202_29 e202_30 R202); omega)
    have zr202 := fz_rng s202
    have zc202 : fz s202 = 0 → fz s188 = 0 := fun hf => by omega
    have A202 : Im (fz s202 = 0) (RG (RT σ) s202 (rR σ 7) 0) := fun hf => RG.trk hp_2 (I188_20 (zc202 hf)) R202 (Or.inr (Or.inl rfl))
    have Ku23 : Im (fz s202 = 0) (GK g g188 (rF σ (rR σ 7) 7) (rF s202 (rR σ 7) 7) 0) := fun hf => GK.trans (KA188 (zc202 hf)) (GK.up (N := rF s188 (rR σ 7) 7) (N' := rF s202 (rR σ 7) 7) (c := 0) (by first | assumption | omega | (simp only [rF_sT, rF_sA]; omega))) (Or.inr (Or.inl rfl))
    have Gu24 : Im (fz s202 = 0) (GS s202 (rR σ 7) g188) := fun hf => GS.mv hp_2 (G188 (zc202 hf)) R202 (by first | assumption | omega | (simp only [rF_sT, rF_sA]; omega)) (by first | (exact Int.le_of_eq (Eq.symm (by assumption))) | omega | (simp only [rF_sT, rF_sA]; omega))
    have rNMp_202 := e202_0 I188_10; clear e202_0
    have PNp_202 := e202_1 I188_11; clear e202_1
    clear e202_2
    exact (by (try simp only [post_X14_readBody, Ks202, Fs202]); (all_goals (repeat' (first | with_reducible intro _ | with_reducible apply And.intro | with_reducible refine Exists.intro g188 ?_ | with_reducible refine Im.and ?_ ?_))); all_goals (first | assumption | trivial | ((with_reducible refine Im.i fun hf_ => ?_); first | exact (A202 hf_) | exact (Gu24 hf_) | exact (Ku23 hf_) | exact ok1.i | (exact LI.z (fun h => absurd h (by decide))) | (exact absurd hf_ (by omega)) | omega) | (unfold FPZ; (try simp only [Ks202, Fs202]); omega) | (unfold FQZ; (try simp only [Ks202, Fs202]); omega) | omega | (have zz_ := fz_z (by assumption); omega) | (split <;> omega) | (exact TPqp.z (by first | omega | (simp only [rF_sF, Nat.reduceEqDiff, and_false, and_true, and_self, reduceIte]; omega) | simp only [rF_sF, Nat.reduceEqDiff, and_false, and_true, and_self, reduceIte])) | (exact CCp.mk (by assumption) (by first | omega | (simp only [rF_sF, Nat.reduceEqDiff, and_false, and_true, and_self, reduceIte]; omega))) | done))
set_option maxRecDepth 20000 in
set_option maxHeartbeats 20000000 in
theorem vX14_readBody_143 (σ : rS) (gg : Nat) (U : Int) (g : Nat → Int → Int) (hwf : rWF σ) (hp : pre_X14_readBody σ gg U g) : VC_X14_readBody_143 σ gg U g (post_X14_readBody σ gg U g) := by
  unfold pre_X14_readBody at hp
  obtain ⟨hp_1, hp_2, hp_3, hp_4, hp_5, hp_6, hp_7, hp_8⟩ := hp
  subst hp_1
  have hF := hp_3
  unfold FPZ at hF
  have zr0 := fz_rng σ
  unfold VC_X14_readBody_143
  intro s143 y143_1 y143_2 y143_3 Ws143 hy143_1 hy143_2 hy143_3 e143_0 e143_1 e143_2 e143_3 e143_4 e143_5 e143_6 I143
  have Ks143 : rR s143 7 = rR σ 7 := by omega
  have Fs143 : rR s143 15 = rR σ 15 := by omega
  unfold inv_X14_readBody_143 at I143
  obtain ⟨I143_1, I143_2, I143_3, I143_4, I143_5, I143_6, I143_7, I143_8, I143_9, I143_10, I143_11, I143_12, I143_13, I143_14, I143_15, I143_16, I143_17, I143_18, I143_19, I143_20, I143_21⟩ := I143
  (try simp only [Ks143, Fs143, FPZ, FQZ] at I143_1 I143_2 I143_3 I143_4 I143_5 I143_6 I143_7 I143_8 I143_9 I143_10 I143_11 I143_12 I143_13 I143_14 I143_15 I143_16 I143_17 I143_18 I143_19 I143_20 I143_21)
  have zr143 := fz_rng s143
  obtain ⟨g143, X143⟩ := I143_21
  have G143 : Im (fz s143 = 0) _ := fun hf => (X143 hf).1
  have KA143 : Im (fz s143 = 0) _ := fun hf => (X143 hf).2.1
  intro hr_; unfold rng at hr_
  refine ⟨fun c148 => ?_, fun c148 => ?_⟩
  · exact (by (try simp only [inv_X14_readBody_188, Ks143, Fs143]); (all_goals (repeat' (first | with_reducible intro _ | with_reducible apply And.intro | with_reducible refine Exists.intro g143 ?_ | with_reducible refine Im.and ?_ ?_))); all_goals (first | assumption | trivial | ((with_reducible refine Im.i fun hf_ => ?_); first | exact (I143_20 hf_) | exact (G143 hf_) | exact (KA143 hf_) | exact ok1.i | (exact LI.z (fun h => absurd h (by decide))) | (exact absurd hf_ (by omega)) | omega) | (unfold FPZ; (try simp only [Ks143, Fs143]); omega) | (unfold FQZ; (try simp only [Ks143, Fs143]); omega) | omega | (have zz_ := fz_z (by assumption); omega) | (split <;> omega) | (exact TPqp.z (by first | omega | (simp only [rF_sF, Nat.reduceEqDiff, and_false, and_true, and_self, reduceIte]; omega) | simp only [rF_sF, Nat.reduceEqDiff, and_false, and_true, and_self, reduceIte])) | (exact CCp.mk (by assumption) (by first | omega | (simp only [rF_sF, Nat.reduceEqDiff, and_false, and_true, and_self, reduceIte]; omega))) | done))
  · refine ⟨(by (try simp only [pre_X14_fc, Ks143, Fs143]); (all_goals (repeat' (first | with_reducible intro _ | with_reducible apply And.intro | with_reducible refine Exists.intro g143 ?_ | with_reducible refine Im.and ?_ ?_))); all_goals (first | assumption | trivial | ((with_reducible refine Im.i fun hf_ => ?_); first | exact (I143_20 hf_) | exact (G143 hf_) | exact (KA143 hf_) | exact ok1.i | (exact LI.z (fun h => absurd h (by decide))) | (exact absurd hf_ (by omega)) | omega) | (unfold FPZ; (try simp only [Ks143, Fs143]); omega) | (unfold FQZ; (try simp only [Ks143, Fs143]); omega) | omega | (have zz_ := fz_z (by assumption); omega) | (split <;> omega) | (exact TPqp.z (by first | omega | (simp only [rF_sF, Nat.reduceEqDiff, and_false, and_true, and_self, reduceIte]; omega) | simp only [rF_sF, Nat.reduceEqDiff, and_false, and_true, and_self, reduceIte])) | (exact CCp.mk (by assumption) (by first | omega | (simp only [rF_sF, Nat.reduceEqDiff, and_false, and_true, and_self, reduceIte]; omega))) | done)), ?_⟩
    intro v153 hv153 q153
    unfold rng at hv153
    unfold post_X14_fc at q153
    obtain ⟨q153_1, q153_2⟩ := q153
    (try simp only [Ks143, Fs143, FPZ, FQZ] at q153_1 q153_2)
    refine ⟨fun c157 => ?_, fun c157 => ?_⟩
    · refine ⟨fun c167 => ?_, fun c167 => ?_⟩
      · refine ⟨(by (try simp only [rng, Ks143, Fs143]); (all_goals (repeat' (first | with_reducible intro _ | with_reducible apply And.intro | with_reducible refine Exists.intro g143 ?_ | with_reducible refine Im.and ?_ ?_))); all_goals (first | assumption | trivial | ((with_reducible refine Im.i fun hf_ => ?_); first | exact (I143_20 hf_) | exact (G143 hf_) | exact (KA143 hf_) | exact ok1.i | (exact LI.z (fun h => absurd h (by decide))) | (exact absurd hf_ (by omega)) | omega) | (unfold FPZ; (try simp only [Ks143, Fs143]); omega) | (unfold FQZ; (try simp only [Ks143, Fs143]); omega) | omega | (have zz_ := fz_z (by assumption); omega) | (split <;> omega) | (exact TPqp.z (by first | omega | (simp only [rF_sF, Nat.reduceEqDiff, and_false, and_true, and_self, reduceIte]; omega) | simp only [rF_sF, Nat.reduceEqDiff, and_false, and_true, and_self, reduceIte])) | (exact CCp.mk (by assumption) (by first | omega | (simp only [rF_sF, Nat.reduceEqDiff, and_false, and_true, and_self, reduceIte]; omega))) | done)), ?_⟩
        exact (by (try simp only [inv_X14_readBody_143, mu_X14_readBody_143, mu_X14_readBody_143, Ks143, Fs143]); (all_goals (repeat' (first | with_reducible intro _ | with_reducible apply And.intro | with_reducible refine Exists.intro g143 ?_ | with_reducible refine Im.and ?_ ?_))); all_goals (first | assumption | trivial | ((with_reducible refine Im.i fun hf_ => ?_); first | exact (I143_20 hf_) | exact (G143 hf_) | exact (KA143 hf_) | exact ok1.i | (exact LI.z (fun h => absurd h (by decide))) | (exact absurd hf_ (by omega)) | omega) | (unfold FPZ; (try simp only [Ks143, Fs143]); omega) | (unfold FQZ; (try simp only [Ks143, Fs143]); omega) | omega | (have zz_ := fz_z (by assumption); omega) | (split <;> omega) | (exact TPqp.z (by first | omega | (simp only [rF_sF, Nat.reduceEqDiff, and_false, and_true, and_self, reduceIte]; omega) | simp only [rF_sF, Nat.reduceEqDiff, and_false, and_true, and_self, reduceIte])) | (exact CCp.mk (by assumption) (by first | omega | (simp only [rF_sF, Nat.reduceEqDiff, and_false, and_true, and_self, reduceIte]; omega))) | done))
      · refine ⟨(by (try simp only [rng, Ks143, Fs143]); (all_goals (repeat' (first | with_reducible intro _ | with_reducible apply And.intro | with_reducible refine Exists.intro g143 ?_ | with_reducible refine Im.and ?_ ?_))); all_goals (first | assumption | trivial | ((with_reducible refine Im.i fun hf_ => ?_); first | exact (I143_20 hf_) | exact (G143 hf_) | exact (KA143 hf_) | exact ok1.i | (exact LI.z (fun h => absurd h (by decide))) | (exact absurd hf_ (by omega)) | omega) | (unfold FPZ; (try simp only [Ks143, Fs143]); omega) | (unfold FQZ; (try simp only [Ks143, Fs143]); omega) | omega | (have zz_ := fz_z (by assumption); omega) | (split <;> omega) | (exact TPqp.z (by first | omega | (simp only [rF_sF, Nat.reduceEqDiff, and_false, and_true, and_self, reduceIte]; omega) | simp only [rF_sF, Nat.reduceEqDiff, and_false, and_true, and_self, reduceIte])) | (exact CCp.mk (by assumption) (by first | omega | (simp only [rF_sF, Nat.reduceEqDiff, and_false, and_true, and_self, reduceIte]; omega))) | done)), ?_⟩
        refine ⟨(by (try simp only [pre_X14_fc, Ks143, Fs143]); (all_goals (repeat' (first | with_reducible intro _ | with_reducible apply And.intro | with_reducible refine Exists.intro g143 ?_ | with_reducible refine Im.and ?_ ?_))); all_goals (first | assumption | trivial | ((with_reducible refine Im.i fun hf_ => ?_); first | exact (I143_20 hf_) | exact (G143 hf_) | exact (KA143 hf_) | exact ok1.i | (exact LI.z (fun h => absurd h (by decide))) | (exact absurd hf_ (by omega)) | omega) | (unfold FPZ; (try simp only [Ks143, Fs143]); omega) | (unfold FQZ; (try simp only [Ks143, Fs143]); omega) | omega | (have zz_ := fz_z (by assumption); omega) | (split <;> omega) | (exact TPqp.z (by first | omega | (simp only [rF_sF, Nat.reduceEqDiff, and_false, and_true, and_self, reduceIte]; omega) | simp only [rF_sF, Nat.reduceEqDiff, and_false, and_true, and_self, reduceIte])) | (exact CCp.mk (by assumption) (by first | omega | (simp only [rF_sF, Nat.reduceEqDiff, and_false, and_true, and_self, reduceIte]; omega))) | done)), ?_⟩
        intro v174 hv174 q174
        unfold rng at hv174
        unfold post_X14_fc at q174
        obtain ⟨q174_1, q174_2⟩ := q174
        (try simp only [Ks143, Fs143, FPZ, FQZ] at q174_1 q174_2)
        refine ⟨fun c179 => ?_, fun c179 => ?_⟩
        · exact (by (try simp only [inv_X14_readBody_188, Ks143, Fs143]); (all_goals (repeat' (first | with_reducible intro _ | with_reducible apply And.intro | with_reducible refine Exists.intro g143 ?_ | with_reducible refine Im.and ?_ ?_))); all_goals (first | assumption | trivial | ((with_reducible refine Im.i fun hf_ => ?_); first | exact (I143_20 hf_) | exact (G143 hf_) | exact (KA143 hf_) | exact ok1.i | (exact LI.z (fun h => absurd h (by decide))) | (exact absurd hf_ (by omega)) | omega) | (unfold FPZ; (try simp only [Ks143, Fs143]); omega) | (unfold FQZ; (try simp only [Ks143, Fs143]); omega) | omega | (have zz_ := fz_z (by assumption); omega) | (split <;> omega) | (exact TPqp.z (by first | omega | (simp only [rF_sF, Nat.reduceEqDiff, and_false, and_true, and_self, reduceIte]; omega) | simp only [rF_sF, Nat.reduceEqDiff, and_false, and_true, and_self, reduceIte])) | (exact CCp.mk (by assumption) (by first | omega | (simp only [rF_sF, Nat.reduceEqDiff, and_false, and_true, and_self, reduceIte]; omega))) | done))
        · exact (by (try simp only [inv_X14_readBody_143, mu_X14_readBody_143, mu_X14_readBody_143, Ks143, Fs143]); (all_goals (repeat' (first | with_reducible intro _ | with_reducible apply And.intro | with_reducible refine Exists.intro g143 ?_ | with_reducible refine Im.and ?_ ?_))); all_goals (first | assumption | trivial | ((with_reducible refine Im.i fun hf_ => ?_); first | exact (I143_20 hf_) | exact (G143 hf_) | exact (KA143 hf_) | exact ok1.i | (exact LI.z (fun h => absurd h (by decide))) | (exact absurd hf_ (by omega)) | omega) | (unfold FPZ; (try simp only [Ks143, Fs143]); omega) | (unfold FQZ; (try simp only [Ks143, Fs143]); omega) | omega | (have zz_ := fz_z (by assumption); omega) | (split <;> omega) | (exact TPqp.z (by first | omega | (simp only [rF_sF, Nat.reduceEqDiff, and_false, and_true, and_self, reduceIte]; omega) | simp only [rF_sF, Nat.reduceEqDiff, and_false, and_true, and_self, reduceIte])) | (exact CCp.mk (by assumption) (by first | omega | (simp only [rF_sF, Nat.reduceEqDiff, and_false, and_true, and_self, reduceIte]; omega))) | done))
    · refine ⟨fun c167 => ?_, fun c167 => ?_⟩
      · refine ⟨(by (try simp only [rng, Ks143, Fs143]); (all_goals (repeat' (first | with_reducible intro _ | with_reducible apply And.intro | with_reducible refine Exists.intro g143 ?_ | with_reducible refine Im.and ?_ ?_))); all_goals (first | assumption | trivial | ((with_reducible refine Im.i fun hf_ => ?_); first | exact (I143_20 hf_) | exact (G143 hf_) | exact (KA143 hf_) | exact ok1.i | (exact LI.z (fun h => absurd h (by decide))) | (exact absurd hf_ (by omega)) | omega) | (unfold FPZ; (try simp only [Ks143, Fs143]); omega) | (unfold FQZ; (try simp only [Ks143, Fs143]); omega) | omega | (have zz_ := fz_z (by assumption); omega) | (split <;> omega) | (exact TPqp.z (by first | omega | (simp only [rF_sF, Nat.reduceEqDiff, and_false, and_true, and_self, reduceIte]; omega) | simp only [rF_sF, Nat.reduceEqDiff, and_false, and_true, and_self, reduceIte])) | (exact CCp.mk (by assumption) (by first | omega | (simp only [rF_sF, Nat.reduceEqDiff, and_false, and_true, and_self, reduceIte]; omega))) | done)), ?_⟩
        exact (by (try simp only [inv_X14_readBody_143, mu_X14_readBody_143, mu_X14_readBody_143, Ks143, Fs143]); (all_goals (repeat' (first | with_reducible intro _ | with_reducible apply And.intro | with_reducible refine Exists.intro g143 ?_ | with_reducible refine Im.and ?_ ?_))); all_goals (first | assumption | trivial | ((with_reducible refine Im.i fun hf_ => ?_); first | exact (I143_20 hf_) | exact (G143 hf_) | exact (KA143 hf_) | exact ok1.i | (exact LI.z (fun h => absurd h (by decide))) | (exact absurd hf_ (by omega)) | omega) | (unfold FPZ; (try simp only [Ks143, Fs143]); omega) | (unfold FQZ; (try simp only [Ks143, Fs143]); omega) | omega | (have zz_ := fz_z (by assumption); omega) | (split <;> omega) | (exact TPqp.z (by first | omega | (simp only [rF_sF, Nat.reduceEqDiff, and_false, and_true, and_self, reduceIte]; omega) | simp only [rF_sF, Nat.reduceEqDiff, and_false, and_true, and_self, reduceIte])) | (exact CCp.mk (by assumption) (by first | omega | (simp only [rF_sF, Nat.reduceEqDiff, and_false, and_true, and_self, reduceIte]; omega))) | done))
      · refine ⟨(by (try simp only [rng, Ks143, Fs143]); (all_goals (repeat' (first | with_reducible intro _ | with_reducible apply And.intro | with_reducible refine Exists.intro g143 ?_ | with_reducible refine Im.and ?_ ?_))); all_goals (first | assumption | trivial | ((with_reducible refine Im.i fun hf_ => ?_); first | exact (I143_20 hf_) | exact (G143 hf_) | exact (KA143 hf_) | exact ok1.i | (exact LI.z (fun h => absurd h (by decide))) | (exact absurd hf_ (by omega)) | omega) | (unfold FPZ; (try simp only [Ks143, Fs143]); omega) | (unfold FQZ; (try simp only [Ks143, Fs143]); omega) | omega | (have zz_ := fz_z (by assumption); omega) | (split <;> omega) | (exact TPqp.z (by first | omega | (simp only [rF_sF, Nat.reduceEqDiff, and_false, and_true, and_self, reduceIte]; omega) | simp only [rF_sF, Nat.reduceEqDiff, and_false, and_true, and_self, reduceIte])) | (exact CCp.mk (by assumption) (by first | omega | (simp only [rF_sF, Nat.reduceEqDiff, and_false, and_true, and_self, reduceIte]; omega))) | done)), ?_⟩
        refine ⟨(by (try simp only [pre_X14_fc, Ks143, Fs143]); (all_goals (repeat' (first | with_reducible intro _ | with_reducible apply And.intro | with_reducible refine Exists.intro g143 ?_ | with_reducible refine Im.and ?_ ?_))); all_goals (first | assumption | trivial | ((with_reducible refine Im.i fun hf_ => ?_); first | exact (I143_20 hf_) | exact (G143 hf_) | exact (KA143 hf_) | exact ok1.i | (exact LI.z (fun h => absurd h (by decide))) | (exact absurd hf_ (by omega)) | omega) | (unfold FPZ; (try simp only [Ks143, Fs143]); omega) | (unfold FQZ; (try simp only [Ks143, Fs143]); omega) | omega | (have zz_ := fz_z (by assumption); omega) | (split <;> omega) | (exact TPqp.z (by first | omega | (simp only [rF_sF, Nat.reduceEqDiff, and_false, and_true, and_self, reduceIte]; omega) | simp only [rF_sF, Nat.reduceEqDiff, and_false, and_true, and_self, reduceIte])) | (exact CCp.mk (by assumption) (by first | omega | (simp only [rF_sF, Nat.reduceEqDiff, and_false, and_true, and_self, reduceIte]; omega))) | done)), ?_⟩
        intro v174 hv174 q174
        unfold rng at hv174
        unfold post_X14_fc at q174
        obtain ⟨q174_1, q174_2⟩ := q174
        (try simp only [Ks143, Fs143, FPZ, FQZ] at q174_1 q174_2)
        refine ⟨fun c179 => ?_, fun c179 => ?_⟩
        · exact (by (try simp only [inv_X14_readBody_188, Ks143, Fs143]); (all_goals (repeat' (first | with_reducible intro _ | with_reducible apply And.intro | with_reducible refine Exists.intro g143 ?_ | with_reducible refine Im.and ?_ ?_))); all_goals (first | assumption | trivial | ((with_reducible refine Im.i fun hf_ => ?_); first | exact (I143_20 hf_) | exact (G143 hf_) | exact (KA143 hf_) | exact ok1.i | (exact LI.z (fun h => absurd h (by decide))) | (exact absurd hf_ (by omega)) | omega) | (unfold FPZ; (try simp only [Ks143, Fs143]); omega) | (unfold FQZ; (try simp only [Ks143, Fs143]); omega) | omega | (have zz_ := fz_z (by assumption); omega) | (split <;> omega) | (exact TPqp.z (by first | omega | (simp only [rF_sF, Nat.reduceEqDiff, and_false, and_true, and_self, reduceIte]; omega) | simp only [rF_sF, Nat.reduceEqDiff, and_false, and_true, and_self, reduceIte])) | (exact CCp.mk (by assumption) (by first | omega | (simp only [rF_sF, Nat.reduceEqDiff, and_false, and_true, and_self, reduceIte]; omega))) | done))
        · exact (by (try simp only [inv_X14_readBody_143, mu_X14_readBody_143, mu_X14_readBody_143, Ks143, Fs143]); (all_goals (repeat' (first | with_reducible intro _ | with_reducible apply And.intro | with_reducible refine Exists.intro g143 ?_ | with_reducible refine Im.and ?_ ?_))); all_goals (first | assumption | trivial | ((with_reducible refine Im.i fun hf_ => ?_); first | exact (I143_20 hf_) | exact (G143 hf_) | exact (KA143 hf_) | exact ok1.i | (exact LI.z (fun h => absurd h (by decide))) | (exact absurd hf_ (by omega)) | omega) | (unfold FPZ; (try simp only [Ks143, Fs143]); omega) | (unfold FQZ; (try simp only [Ks143, Fs143]); omega) | omega | (have zz_ := fz_z (by assumption); omega) | (split <;> omega) | (exact TPqp.z (by first | omega | (simp only [rF_sF, Nat.reduceEqDiff, and_false, and_true, and_self, reduceIte]; omega) | simp only [rF_sF, Nat.reduceEqDiff, and_false, and_true, and_self, reduceIte])) | (exact CCp.mk (by assumption) (by first | omega | (simp only [rF_sF, Nat.reduceEqDiff, and_false, and_true, and_self, reduceIte]; omega))) | done))
set_option maxRecDepth 20000 in
set_option maxHeartbeats 20000000 in
theorem vX14_readBody_143m (σ : rS) (gg : Nat) (U : Int) (g : Nat → Int → Int) (hwf : rWF σ) (hp : pre_X14_readBody σ gg U g) : VC_X14_readBody_143m σ gg U g := by
  unfold pre_X14_readBody at hp
  obtain ⟨hp_1, hp_2, hp_3, hp_4, hp_5, hp_6, hp_7, hp_8⟩ := hp
  subst hp_1
  have hF := hp_3
  unfold FPZ at hF
  have zr0 := fz_rng σ
  unfold VC_X14_readBody_143m
  (try simp only [inv_X14_readBody_143, mu_X14_readBody_143]); (all_goals (repeat' (first | with_reducible intro _ | with_reducible apply And.intro))); all_goals (first | assumption | omega | grind (splits := 20))
set_option maxRecDepth 20000 in
set_option maxHeartbeats 20000000 in
theorem vX14_readBody_113 (σ : rS) (gg : Nat) (U : Int) (g : Nat → Int → Int) (hwf : rWF σ) (hp : pre_X14_readBody σ gg U g) : VC_X14_readBody_113 σ gg U g (post_X14_readBody σ gg U g) := by
  unfold pre_X14_readBody at hp
  obtain ⟨hp_1, hp_2, hp_3, hp_4, hp_5, hp_6, hp_7, hp_8⟩ := hp
  subst hp_1
  have hF := hp_3
  unfold FPZ at hF
  have zr0 := fz_rng σ
  unfold VC_X14_readBody_113
  intro s113 Ws113 e113_0 e113_1 e113_2 e113_3 e113_4 e113_5 e113_6 I113
  have Ks113 : rR s113 7 = rR σ 7 := by omega
  have Fs113 : rR s113 15 = rR σ 15 := by omega
  unfold inv_X14_readBody_113 at I113
  obtain ⟨I113_1, I113_2, I113_3, I113_4, I113_5, I113_6, I113_7, I113_8, I113_9, I113_10, I113_11, I113_12, I113_13, I113_14, I113_15, I113_16, I113_17⟩ := I113
  (try simp only [Ks113, Fs113, FPZ, FQZ] at I113_1 I113_2 I113_3 I113_4 I113_5 I113_6 I113_7 I113_8 I113_9 I113_10 I113_11 I113_12 I113_13 I113_14 I113_15 I113_16 I113_17)
  have zr113 := fz_rng s113
  obtain ⟨g113, X113⟩ := I113_17
  have G113 : Im (fz s113 = 0) _ := fun hf => (X113 hf).1
  have KA113 : Im (fz s113 = 0) _ := fun hf => (X113 hf).2.1
  intro hr_; unfold rng at hr_
  refine ⟨(by (try simp only [rng, Ks113, Fs113]); (all_goals (repeat' (first | with_reducible intro _ | with_reducible apply And.intro | with_reducible refine Exists.intro g113 ?_ | with_reducible refine Im.and ?_ ?_))); all_goals (first | assumption | trivial | ((with_reducible refine Im.i fun hf_ => ?_); first | exact (I113_16 hf_) | exact (G113 hf_) | exact (KA113 hf_) | exact ok1.i | (exact LI.z (fun h => absurd h (by decide))) | (exact absurd hf_ (by omega)) | omega) | (unfold FPZ; (try simp only [Ks113, Fs113]); omega) | (unfold FQZ; (try simp only [Ks113, Fs113]); omega) | omega | (have zz_ := fz_z (by assumption); omega) | (split <;> omega) | (exact TPqp.z (by first | omega | (simp only [rF_sF, Nat.reduceEqDiff, and_false, and_true, and_self, reduceIte]; omega) | simp only [rF_sF, Nat.reduceEqDiff, and_false, and_true, and_self, reduceIte])) | (exact CCp.mk (by assumption) (by first | omega | (simp only [rF_sF, Nat.reduceEqDiff, and_false, and_true, and_self, reduceIte]; omega))) | done)), ?_⟩
  refine ⟨(by (try simp only [pre_X14_fc, Ks113, Fs113]); (all_goals (repeat' (first | with_reducible intro _ | with_reducible apply And.intro | with_reducible refine Exists.intro g113 ?_ | with_reducible refine Im.and ?_ ?_))); all_goals (first | assumption | trivial | ((with_reducible refine Im.i fun hf_ => ?_); first | exact (I113_16 hf_) | exact (G113 hf_) | exact (KA113 hf_) | exact ok1.i | (exact LI.z (fun h => absurd h (by decide))) | (exact absurd hf_ (by omega)) | omega) | (unfold FPZ; (try simp only [Ks113, Fs113]); omega) | (unfold FQZ; (try simp only [Ks113, Fs113]); omega) | omega | (have zz_ := fz_z (by assumption); omega) | (split <;> omega) | (exact TPqp.z (by first | omega | (simp only [rF_sF, Nat.reduceEqDiff, and_false, and_true, and_self, reduceIte]; omega) | simp only [rF_sF, Nat.reduceEqDiff, and_false, and_true, and_self, reduceIte])) | (exact CCp.mk (by assumption) (by first | omega | (simp only [rF_sF, Nat.reduceEqDiff, and_false, and_true, and_self, reduceIte]; omega))) | done)), ?_⟩
  intro v120 hv120 q120
  unfold rng at hv120
  unfold post_X14_fc at q120
  obtain ⟨q120_1, q120_2⟩ := q120
  (try simp only [Ks113, Fs113, FPZ, FQZ] at q120_1 q120_2)
  refine ⟨fun c125 => ?_, fun c125 => ?_⟩
  · refine ⟨(by (try simp only [rng, Ks113, Fs113]); (all_goals (repeat' (first | with_reducible intro _ | with_reducible apply And.intro | with_reducible refine Exists.intro g113 ?_ | with_reducible refine Im.and ?_ ?_))); all_goals (first | assumption | trivial | ((with_reducible refine Im.i fun hf_ => ?_); first | exact (I113_16 hf_) | exact (G113 hf_) | exact (KA113 hf_) | exact ok1.i | (exact LI.z (fun h => absurd h (by decide))) | (exact absurd hf_ (by omega)) | omega) | (unfold FPZ; (try simp only [Ks113, Fs113]); omega) | (unfold FQZ; (try simp only [Ks113, Fs113]); omega) | omega | (have zz_ := fz_z (by assumption); omega) | (split <;> omega) | (exact TPqp.z (by first | omega | (simp only [rF_sF, Nat.reduceEqDiff, and_false, and_true, and_self, reduceIte]; omega) | simp only [rF_sF, Nat.reduceEqDiff, and_false, and_true, and_self, reduceIte])) | (exact CCp.mk (by assumption) (by first | omega | (simp only [rF_sF, Nat.reduceEqDiff, and_false, and_true, and_self, reduceIte]; omega))) | done)), ?_⟩
    exact (by (try simp only [inv_X14_readBody_143, Ks113, Fs113]); (all_goals (repeat' (first | with_reducible intro _ | with_reducible apply And.intro | with_reducible refine Exists.intro g113 ?_ | with_reducible refine Im.and ?_ ?_))); all_goals (first | assumption | trivial | ((with_reducible refine Im.i fun hf_ => ?_); first | exact (I113_16 hf_) | exact (G113 hf_) | exact (KA113 hf_) | exact ok1.i | (exact LI.z (fun h => absurd h (by decide))) | (exact absurd hf_ (by omega)) | omega) | (unfold FPZ; (try simp only [Ks113, Fs113]); omega) | (unfold FQZ; (try simp only [Ks113, Fs113]); omega) | omega | (have zz_ := fz_z (by assumption); omega) | (split <;> omega) | (exact TPqp.z (by first | omega | (simp only [rF_sF, Nat.reduceEqDiff, and_false, and_true, and_self, reduceIte]; omega) | simp only [rF_sF, Nat.reduceEqDiff, and_false, and_true, and_self, reduceIte])) | (exact CCp.mk (by assumption) (by first | omega | (simp only [rF_sF, Nat.reduceEqDiff, and_false, and_true, and_self, reduceIte]; omega))) | done))
  · refine ⟨(by (try simp only [rng, Ks113, Fs113]); (all_goals (repeat' (first | with_reducible intro _ | with_reducible apply And.intro | with_reducible refine Exists.intro g113 ?_ | with_reducible refine Im.and ?_ ?_))); all_goals (first | assumption | trivial | ((with_reducible refine Im.i fun hf_ => ?_); first | exact (I113_16 hf_) | exact (G113 hf_) | exact (KA113 hf_) | exact ok1.i | (exact LI.z (fun h => absurd h (by decide))) | (exact absurd hf_ (by omega)) | omega) | (unfold FPZ; (try simp only [Ks113, Fs113]); omega) | (unfold FQZ; (try simp only [Ks113, Fs113]); omega) | omega | (have zz_ := fz_z (by assumption); omega) | (split <;> omega) | (exact TPqp.z (by first | omega | (simp only [rF_sF, Nat.reduceEqDiff, and_false, and_true, and_self, reduceIte]; omega) | simp only [rF_sF, Nat.reduceEqDiff, and_false, and_true, and_self, reduceIte])) | (exact CCp.mk (by assumption) (by first | omega | (simp only [rF_sF, Nat.reduceEqDiff, and_false, and_true, and_self, reduceIte]; omega))) | done)), ?_⟩
    exact (by (try simp only [inv_X14_readBody_143, Ks113, Fs113]); (all_goals (repeat' (first | with_reducible intro _ | with_reducible apply And.intro | with_reducible refine Exists.intro g113 ?_ | with_reducible refine Im.and ?_ ?_))); all_goals (first | assumption | trivial | ((with_reducible refine Im.i fun hf_ => ?_); first | exact (I113_16 hf_) | exact (G113 hf_) | exact (KA113 hf_) | exact ok1.i | (exact LI.z (fun h => absurd h (by decide))) | (exact absurd hf_ (by omega)) | omega) | (unfold FPZ; (try simp only [Ks113, Fs113]); omega) | (unfold FQZ; (try simp only [Ks113, Fs113]); omega) | omega | (have zz_ := fz_z (by assumption); omega) | (split <;> omega) | (exact TPqp.z (by first | omega | (simp only [rF_sF, Nat.reduceEqDiff, and_false, and_true, and_self, reduceIte]; omega) | simp only [rF_sF, Nat.reduceEqDiff, and_false, and_true, and_self, reduceIte])) | (exact CCp.mk (by assumption) (by first | omega | (simp only [rF_sF, Nat.reduceEqDiff, and_false, and_true, and_self, reduceIte]; omega))) | done))
theorem wX14_readBody (l : Launch) (G : zG) (κ : Nat → Nat) (σ : rS) (gg : Nat) (U : Int) (g : Nat → Int → Int) (hwf : rWF σ) (Q : Int → rS → Prop) (h : VC_X14_readBody σ gg U g Q) (h_298 : VC_X14_readBody_298 σ gg U g Q) (h_298m : VC_X14_readBody_298m σ gg U g) (h_268 : VC_X14_readBody_268 σ gg U g Q) (h_247 : VC_X14_readBody_247 σ gg U g Q) (h_188 : VC_X14_readBody_188 σ gg U g Q) (h_143 : VC_X14_readBody_143 σ gg U g Q) (h_143m : VC_X14_readBody_143m σ gg U g) (h_113 : VC_X14_readBody_113 σ gg U g Q) : rMi l G κ yX14_readBody cX14_readBody 5 .int 462 18045 [.ref (κ 0)] σ (fun x s => rKeep 0x6c0f3e21c00 0x4100001280 0x13c0c000000 0x3ee0000d7f 0 σ s ∧ Q x s) := by
  refine zMi.intro (by decide +kernel) (Nat.le_of_ble_eq_true rfl) (fun X hC hR => ?_)
  obtain ⟨g0, h⟩ := h
  refine z_aload_n hC (pc := 0) 0 dX14_readBody_0 rfl rfl ?_
  obtain ⟨p10, h⟩ := h
  refine y_callVv hC (pc := 1) (As := []) (kX14_skip l G κ σ  hwf  p10) dmX14_skip zf14 rOb_0 dX14_readBody_1 zw2985 rfl rfl (Nat.le_of_ble_eq_true rfl) (Nat.le_of_ble_eq_true rfl) (Nat.le_of_ble_eq_true rfl) (Nat.le_of_ble_eq_true rfl) (Nat.le_of_ble_eq_true rfl) (kk := fun s1 Ws1 qs1 => ?_)
  have h := h s1 Ws1 (rNMp.keep qs1.1 rfl rfl rfl rfl rfl) (PNp.keep qs1.1 rfl rfl rfl rfl rfl) (CCp.keep qs1.1 rfl rfl rfl rfl rfl rfl rfl) (qs1.1.R rfl) (qs1.1.R rfl) (qs1.1.F rfl) (qs1.1.F rfl) (qs1.1.F rfl) (qs1.1.F rfl) (qs1.1.F rfl) (qs1.1.F rfl) (qs1.1.F rfl) (qs1.1.F rfl) (qs1.1.F rfl) (qs1.1.F rfl) (qs1.1.F rfl) (qs1.1.F rfl) (qs1.1.F rfl) (qs1.1.F rfl) (fun i => qs1.1.A (f := 27) (by decide) rfl) (fun i => qs1.1.A (f := 34) (by decide) rfl) (fun i => qs1.1.A (f := 35) (by decide) rfl) (fun i => qs1.1.A (f := 40) (by decide) rfl) (qs1.1.FG g0 rfl) (qs1.1.FG g0 rfl) (qs1.1.FG g0 rfl) (qs1.1.FG g0 rfl) (qs1.1.FG g0 rfl) (fun i => qs1.1.AG (f := 10) g0 (by decide) rfl) (fun i => qs1.1.AG (f := 11) g0 (by decide) rfl) (RG.keep (c0 := 0) qs1.1 rfl rfl rfl rfl rfl rfl rfl rfl rfl rfl rfl rfl rfl rfl rfl rfl rfl rfl) qs1.2
  refine z_aload_n hC (pc := 4) 0 dX14_readBody_4 rfl rfl ?_
  refine y_get hC (pc := 5) zf14 rOb_0 10 (v := iv (rF s1 0 10)) dX14_readBody_5 zw2478 (rv_i (Or.inl rfl) rfl) (kk := ?_)
  have h := h (Ws1.f _ _)
  obtain ⟨hT, hF⟩ := h
  refine y_if_eq hC (pc := 8) 13 (Ws1.f _ _) dX14_readBody_8 (by decide) (fun c => ?_) (fun c => ?_)
  · have h := hT c
    refine z_aload_n hC (pc := 13) 0 dX14_readBody_13 rfl rfl ?_
    refine y_get hC (pc := 14) zf14 rOb_0 17 (v := iv (rF s1 0 17)) dX14_readBody_14 zw2484 (rv_i (Or.inl rfl) rfl) (kk := ?_)
    have h := h (Ws1.f _ _)
    refine z_istore_n hC (pc := 17) (lv' := [(1, iv (rF s1 0 17)), (0, .ref (κ 0))]) dX14_readBody_17 rfl (by decide) rfl ?_
    refine z_aload_n hC (pc := 18) 1 dX14_readBody_18 rfl rfl ?_
    refine z_iconst hC (pc := 19) (v := Int32.ofInt 0) dX14_readBody_19 (by decide) ?_
    refine y_putI hC (pc := 20) zf14 rOb_0 28 (x := 0) dX14_readBody_20 zw2495 (Or.inl rfl) rfl rfl (kk := ?_)
    have W11 := Ws1.sF (q := 0) (f := 28) (x := 0) (r_lit rfl)
    refine z_aload_n hC (pc := 23) 1 dX14_readBody_23 rfl rfl ?_
    refine z_aload_n hC (pc := 24) 1 dX14_readBody_24 rfl rfl ?_
    refine y_get hC (pc := 25) zf14 rOb_0 17 (v := iv (rF s1 0 17)) dX14_readBody_25 zw2484 (rv_i (Or.inl rfl) ((F_sF_ne (by decide)).trans rfl)) (kk := ?_)
    obtain ⟨p12, h⟩ := h
    refine y_callVi hC (pc := 28) (As := [iv (rF s1 0 17)]) (kX14_fc l G κ (sF s1 0 28 0) (rF s1 0 17) W11 (Ws1.f _ _) p12) dmX14_fc zf14 rOb_0 dX14_readBody_28 zw2993 rfl rfl (Nat.le_of_ble_eq_true rfl) (Nat.le_of_ble_eq_true rfl) (Nat.le_of_ble_eq_true rfl) (Nat.le_of_ble_eq_true rfl) (Nat.le_of_ble_eq_true rfl) (kk := fun v28 s28 hv28 Ws28 qs28 => ?_)
    obtain ⟨es28, qs28⟩ := qs28
    have es28 := es28.symm
    subst es28
    have h := h v28 hv28 qs28
    refine z_bipush hC (pc := 31) (v := Int32.ofInt 34) dX14_readBody_31 (by decide) ?_
    obtain ⟨hT, hF⟩ := h
    refine y_icmp_ne hC (pc := 33) 70 hv28 (r_lit rfl) dX14_readBody_33 (by decide) (fun c => ?_) (fun c => ?_)
    · have h := hT c
      refine z_aload_n hC (pc := 70) 1 dX14_readBody_70 rfl rfl ?_
      refine z_aload_n hC (pc := 71) 1 dX14_readBody_71 rfl rfl ?_
      refine y_get hC (pc := 72) zf14 rOb_0 17 (v := iv (rF s1 0 17)) dX14_readBody_72 zw2484 (rv_i (Or.inl rfl) ((F_sF_ne (by decide)).trans rfl)) (kk := ?_)
      obtain ⟨p13, h⟩ := h
      refine y_callVi hC (pc := 75) (As := [iv (rF s1 0 17)]) (kX14_fc l G κ (sF s1 0 28 0) (rF s1 0 17) W11 (Ws1.f _ _) p13) dmX14_fc zf14 rOb_0 dX14_readBody_75 zw2993 rfl rfl (Nat.le_of_ble_eq_true rfl) (Nat.le_of_ble_eq_true rfl) (Nat.le_of_ble_eq_true rfl) (Nat.le_of_ble_eq_true rfl) (Nat.le_of_ble_eq_true rfl) (kk := fun v75 s75 hv75 Ws75 qs75 => ?_)
      obtain ⟨es75, qs75⟩ := qs75
      have es75 := es75.symm
      subst es75
      have h := h v75 hv75 qs75
      refine z_bipush hC (pc := 78) (v := Int32.ofInt 60) dX14_readBody_78 (by decide) ?_
      obtain ⟨hT, hF⟩ := h
      refine y_icmp_ne hC (pc := 80) 285 hv75 (r_lit rfl) dX14_readBody_80 (by decide) (fun c => ?_) (fun c => ?_)
      · have h := hT c
        refine z_aload_n hC (pc := 285) 1 dX14_readBody_285 rfl rfl ?_
        refine z_iconst hC (pc := 286) (v := Int32.ofInt 1) dX14_readBody_286 (by decide) ?_
        refine z_aload_n hC (pc := 287) 1 dX14_readBody_287 rfl rfl ?_
        refine y_get hC (pc := 288) zf14 rOb_0 17 (v := iv (rF s1 0 17)) dX14_readBody_288 zw2484 (rv_i (Or.inl rfl) ((F_sF_ne (by decide)).trans rfl)) (kk := ?_)
        obtain ⟨p14, h⟩ := h
        refine y_callVv hC (pc := 291) (As := [iv 1, iv (rF s1 0 17)]) (kX14_bad l G κ (sF s1 0 28 0) 1 (rF s1 0 17) W11 (r_lit rfl) (Ws1.f _ _) p14) dmX14_bad zf14 rOb_0 dX14_readBody_291 zw3000 rfl rfl (Nat.le_of_ble_eq_true rfl) (Nat.le_of_ble_eq_true rfl) (Nat.le_of_ble_eq_true rfl) (Nat.le_of_ble_eq_true rfl) (Nat.le_of_ble_eq_true rfl) (kk := fun s291 Ws291 qs291 => ?_)
        have h := h s291 Ws291 (rNMp.keep qs291.1 rfl rfl rfl rfl rfl) (PNp.keep qs291.1 rfl rfl rfl rfl rfl) (CCp.keep qs291.1 rfl rfl rfl rfl rfl rfl rfl) (qs291.1.R rfl) (qs291.1.R rfl) (qs291.1.F rfl) (qs291.1.F rfl) (qs291.1.F rfl) (qs291.1.F rfl) (qs291.1.F rfl) (qs291.1.F rfl) (qs291.1.F rfl) (qs291.1.F rfl) (qs291.1.F rfl) (qs291.1.F rfl) (qs291.1.F rfl) (qs291.1.F rfl) (qs291.1.F rfl) (qs291.1.F rfl) (qs291.1.F rfl) (fun i => qs291.1.A (f := 27) (by decide) rfl) (fun i => qs291.1.A (f := 34) (by decide) rfl) (fun i => qs291.1.A (f := 35) (by decide) rfl) (fun i => qs291.1.A (f := 40) (by decide) rfl) (qs291.1.FG g0 rfl) (qs291.1.FG g0 rfl) (qs291.1.FG g0 rfl) (qs291.1.FG g0 rfl) (qs291.1.FG g0 rfl) (fun i => qs291.1.AG (f := 10) g0 (by decide) rfl) (fun i => qs291.1.AG (f := 11) g0 (by decide) rfl) (RG.keep (c0 := 0) qs291.1 rfl rfl rfl rfl rfl rfl rfl rfl rfl rfl rfl rfl rfl rfl rfl rfl rfl rfl) qs291.2
        refine z_iconst hC (pc := 294) (v := Int32.ofInt 0) dX14_readBody_294 (by decide) ?_
        exact y_reti hR dX14_readBody_295 rfl (r_lit rfl) Ws291 (Nat.le_of_ble_eq_true rfl) (Nat.le_of_ble_eq_true rfl) ⟨(rKeep.tr (rKeep.tr (rKeep.tr rKeep.rf qs1.1 rfl rfl rfl rfl rfl) (rKeep.sF0 (f := 28)) rfl rfl rfl rfl rfl) qs291.1 rfl rfl rfl rfl rfl), h⟩
      · have h := hF c
        refine z_aload_n hC (pc := 83) 1 dX14_readBody_83 rfl rfl ?_
        refine z_aload_n hC (pc := 84) 1 dX14_readBody_84 rfl rfl ?_
        refine y_get hC (pc := 85) zf14 rOb_0 17 (v := iv (rF s1 0 17)) dX14_readBody_85 zw2484 (rv_i (Or.inl rfl) ((F_sF_ne (by decide)).trans rfl)) (kk := ?_)
        refine z_iconst hC (pc := 88) (v := Int32.ofInt 1) dX14_readBody_88 (by decide) ?_
        refine y_iadd hC (pc := 89) (v := ((rF s1 0 17) + 1)) dX14_readBody_89 rfl ?_
        obtain ⟨r15, h⟩ := h
        obtain ⟨p16, h⟩ := h
        refine y_callVi hC (pc := 90) (As := [iv ((rF s1 0 17) + 1)]) (kX14_fc l G κ (sF s1 0 28 0) ((rF s1 0 17) + 1) W11 r15 p16) dmX14_fc zf14 rOb_0 dX14_readBody_90 zw2993 rfl rfl (Nat.le_of_ble_eq_true rfl) (Nat.le_of_ble_eq_true rfl) (Nat.le_of_ble_eq_true rfl) (Nat.le_of_ble_eq_true rfl) (Nat.le_of_ble_eq_true rfl) (kk := fun v90 s90 hv90 Ws90 qs90 => ?_)
        obtain ⟨es90, qs90⟩ := qs90
        have es90 := es90.symm
        subst es90
        have h := h v90 hv90 qs90
        refine z_bipush hC (pc := 93) (v := Int32.ofInt 60) dX14_readBody_93 (by decide) ?_
        have j113 : ∀ (s113 : rS) , rWF s113 → rKeep 0x6c0f3e21c00 0x4100001280 0x13c0c000000 0x3ee0000d7f 0 σ s113 → inv_X14_readBody_113 σ gg U g s113 → zS X G 5 (rW G κ s113) [(0, .ref (κ 0))] 0 0 113 [] := by
          intro s113 Ws113 kJ hI
          have h := h_113  s113  Ws113  (kJ.R rfl) (kJ.R rfl) (kJ.F rfl) (kJ.F rfl) (kJ.F rfl) (kJ.F rfl) (kJ.F rfl) hI
          refine z_aload_n hC (pc := 113) 0 dX14_readBody_113 rfl rfl ?_
          refine z_aload_n hC (pc := 114) 0 dX14_readBody_114 rfl rfl ?_
          refine y_get hC (pc := 115) zf14 rOb_0 17 (v := iv (rF s113 0 17)) dX14_readBody_115 zw2484 (rv_i (Or.inl rfl) rfl) (kk := ?_)
          have h := h (Ws113.f _ _)
          refine z_iconst hC (pc := 118) (v := Int32.ofInt 1) dX14_readBody_118 (by decide) ?_
          refine y_iadd hC (pc := 119) (v := ((rF s113 0 17) + 1)) dX14_readBody_119 rfl ?_
          obtain ⟨r17, h⟩ := h
          obtain ⟨p18, h⟩ := h
          refine y_callVi hC (pc := 120) (As := [iv ((rF s113 0 17) + 1)]) (kX14_fc l G κ s113 ((rF s113 0 17) + 1) Ws113 r17 p18) dmX14_fc zf14 rOb_0 dX14_readBody_120 zw2993 rfl rfl (Nat.le_of_ble_eq_true rfl) (Nat.le_of_ble_eq_true rfl) (Nat.le_of_ble_eq_true rfl) (Nat.le_of_ble_eq_true rfl) (Nat.le_of_ble_eq_true rfl) (kk := fun v120 s120 hv120 Ws120 qs120 => ?_)
          obtain ⟨es120, qs120⟩ := qs120
          have es120 := es120.symm
          subst es120
          have h := h v120 hv120 qs120
          refine z_bipush hC (pc := 123) (v := Int32.ofInt 60) dX14_readBody_123 (by decide) ?_
          obtain ⟨hT, hF⟩ := h
          refine y_icmp_ne hC (pc := 125) 132 hv120 (r_lit rfl) dX14_readBody_125 (by decide) (fun c => ?_) (fun c => ?_)
          · have h := hT c
            refine z_iconst hC (pc := 132) (v := Int32.ofInt 0) dX14_readBody_132 (by decide) ?_
            refine z_istore_n hC (pc := 133) (lv' := [(3, iv 0), (0, .ref (κ 0))]) dX14_readBody_133 rfl (by decide) rfl ?_
            refine z_aload_n hC (pc := 134) 1 dX14_readBody_134 rfl rfl ?_
            refine y_get hC (pc := 135) zf14 rOb_0 17 (v := iv (rF s113 0 17)) dX14_readBody_135 zw2484 (rv_i (Or.inl rfl) rfl) (kk := ?_)
            refine z_iconst hC (pc := 138) (v := Int32.ofInt 2) dX14_readBody_138 (by decide) ?_
            refine y_iadd hC (pc := 139) (v := ((rF s113 0 17) + 2)) dX14_readBody_139 rfl ?_
            refine z_istore_n hC (pc := 140) (lv' := [(1, iv ((rF s113 0 17) + 2)), (3, iv 0), (0, .ref (κ 0))]) dX14_readBody_140 rfl (by decide) rfl ?_
            refine z_iload_n hC (pc := 141) 0 dX14_readBody_141 rfl rfl ?_
            refine z_istore_n hC (pc := 142) (lv' := [(2, iv ((rF s113 0 17) + 2)), (1, iv ((rF s113 0 17) + 2)), (3, iv 0), (0, .ref (κ 0))]) dX14_readBody_142 rfl (by decide) rfl ?_
            have j143 : ∀ (d143 : Nat), ∀ (s143 : rS) (y143_1 : Int) (y143_2 : Int) (y143_3 : Int), rWF s143 → rng y143_1 → rng y143_2 → rng y143_3 → rKeep 0x6c0f3e21c00 0x4100001280 0x13c0c000000 0x3ee0000d7f 0 σ s143 → inv_X14_readBody_143 σ gg U g s143 y143_1 y143_2 y143_3 → (mu_X14_readBody_143 σ gg U g s143 y143_1 y143_2 y143_3) ≤ d143 → zS X G 5 (rW G κ s143) [(0, .ref (κ 0)), (1, iv y143_1), (2, iv y143_2), (3, iv y143_3)] 0 0 143 [] := by
              intro d143
              induction d143 with
              | zero =>
                intro s143 y143_1 y143_2 y143_3 Ws143 hy143_1 hy143_2 hy143_3 kJ hI hmu
                exact absurd hmu (by have := h_143m  s143 y143_1 y143_2 y143_3 Ws143 hy143_1 hy143_2 hy143_3 (kJ.R rfl) (kJ.R rfl) (kJ.F rfl) (kJ.F rfl) (kJ.F rfl) (kJ.F rfl) (kJ.F rfl) hI; omega)
              | succ d143 ih143 =>
                intro s143 y143_1 y143_2 y143_3 Ws143 hy143_1 hy143_2 hy143_3 kJ hI hmu143
                have h := h_143  s143 y143_1 y143_2 y143_3 Ws143 hy143_1 hy143_2 hy143_3 (kJ.R rfl) (kJ.R rfl) (kJ.F rfl) (kJ.F rfl) (kJ.F rfl) (kJ.F rfl) (kJ.F rfl) hI
                refine z_iload_n hC (pc := 143) 2 dX14_readBody_143 rfl rfl ?_
                refine z_aload_n hC (pc := 144) 0 dX14_readBody_144 rfl rfl ?_
                refine y_get hC (pc := 145) zf14 rOb_0 16 (v := iv (rF s143 0 16)) dX14_readBody_145 zw2483 (rv_i (Or.inl rfl) rfl) (kk := ?_)
                have h := h (Ws143.f _ _)
                have j188 : ∀ (s188 : rS) (y188_1 : Int) (y188_2 : Int) (y188_3 : Int), rWF s188 → rng y188_1 → rng y188_2 → rng y188_3 → rKeep 0x6c0f3e21c00 0x4100001280 0x13c0c000000 0x3ee0000d7f 0 σ s188 → inv_X14_readBody_188 σ gg U g s188 y188_1 y188_2 y188_3 → zS X G 5 (rW G κ s188) [(0, .ref (κ 0)), (1, iv y188_1), (2, iv y188_2), (3, iv y188_3)] 0 0 188 [] := by
                  intro s188 y188_1 y188_2 y188_3 Ws188 hy188_1 hy188_2 hy188_3 kJ hI
                  have h := h_188  s188 y188_1 y188_2 y188_3 Ws188 hy188_1 hy188_2 hy188_3 (kJ.R rfl) (kJ.R rfl) (kJ.F rfl) (kJ.F rfl) (kJ.F rfl) (kJ.F rfl) (kJ.F rfl) hI
                  refine z_iload_n hC (pc := 188) 2 dX14_readBody_188 rfl rfl ?_
                  refine z_aload_n hC (pc := 189) 0 dX14_readBody_189 rfl rfl ?_
                  refine y_get hC (pc := 190) zf14 rOb_0 16 (v := iv (rF s188 0 16)) dX14_readBody_190 zw2483 (rv_i (Or.inl rfl) rfl) (kk := ?_)
                  have h := h (Ws188.f _ _)
                  obtain ⟨hT, hF⟩ := h
                  refine y_icmp_lt hC (pc := 193) 207 hy188_2 (Ws188.f _ _) dX14_readBody_193 (by decide) (fun c => ?_) (fun c => ?_)
                  · have h := hT c
                    refine z_aload_n hC (pc := 207) 0 dX14_readBody_207 rfl rfl ?_
                    refine z_iload_n hC (pc := 208) 2 dX14_readBody_208 rfl rfl ?_
                    refine z_iconst hC (pc := 209) (v := Int32.ofInt 2) dX14_readBody_209 (by decide) ?_
                    refine y_iadd hC (pc := 210) (v := (y188_2 + 2)) dX14_readBody_210 rfl ?_
                    obtain ⟨r19, h⟩ := h
                    refine y_putI hC (pc := 211) zf14 rOb_0 17 (x := (y188_2 + 2)) dX14_readBody_211 zw2484 (Or.inl rfl) rfl rfl (kk := ?_)
                    have W20 := Ws188.sF (q := 0) (f := 17) (x := (y188_2 + 2)) r19
                    refine z_aload_n hC (pc := 214) 0 dX14_readBody_214 rfl rfl ?_
                    refine z_iload_n hC (pc := 215) 2 dX14_readBody_215 rfl rfl ?_
                    refine y_putI hC (pc := 216) zf14 rOb_0 30 (x := y188_2) dX14_readBody_216 zw2497 (Or.inl rfl) rfl rfl (kk := ?_)
                    have W21 := W20.sF (q := 0) (f := 30) (x := y188_2) hy188_2
                    refine z_iload_n hC (pc := 219) 3 dX14_readBody_219 rfl rfl ?_
                    obtain ⟨hT, hF⟩ := h
                    refine y_if_eq hC (pc := 220) 271 hy188_3 dX14_readBody_220 (by decide) (fun c => ?_) (fun c => ?_)
                    · have h := hT c
                      refine z_aload_n hC (pc := 271) 0 dX14_readBody_271 rfl rfl ?_
                      refine z_iload_n hC (pc := 272) 1 dX14_readBody_272 rfl rfl ?_
                      refine z_iload_n hC (pc := 273) 2 dX14_readBody_273 rfl rfl ?_
                      obtain ⟨p22, h⟩ := h
                      refine y_callVv hC (pc := 274) (As := [iv y188_1, iv y188_2]) (kX14_packed_f l G κ (sF (sF s188 0 17 (y188_2 + 2)) 0 30 y188_2) y188_1 y188_2 W21 hy188_1 hy188_2 p22) dmX14_packed zf14 rOb_0 dX14_readBody_274 zw3083 rfl rfl (Nat.le_of_ble_eq_true rfl) (Nat.le_of_ble_eq_true rfl) (Nat.le_of_ble_eq_true rfl) (Nat.le_of_ble_eq_true rfl) (Nat.le_of_ble_eq_true rfl) (kk := fun s274 Ws274 qs274 => ?_)
                      have h := h s274 Ws274 (rNMp.keep qs274.1 rfl rfl rfl rfl rfl) (PNp.keep qs274.1 rfl rfl rfl rfl rfl) (qs274.1.R rfl) (qs274.1.R rfl) (qs274.1.F rfl) (qs274.1.F rfl) (qs274.1.F rfl) (qs274.1.F rfl) (qs274.1.F rfl) (qs274.1.F rfl) (qs274.1.F rfl) (qs274.1.F rfl) (qs274.1.F rfl) (qs274.1.F rfl) (qs274.1.F rfl) (qs274.1.F rfl) (qs274.1.F rfl) (qs274.1.F rfl) (qs274.1.F rfl) (fun i => qs274.1.A (f := 34) (by decide) rfl) (fun i => qs274.1.A (f := 35) (by decide) rfl) (fun i => qs274.1.A (f := 40) (by decide) rfl) (qs274.1.FG g0 rfl) (qs274.1.FG g0 rfl) (qs274.1.FG g0 rfl) (qs274.1.FG g0 rfl) (qs274.1.FG g0 rfl) (fun i => qs274.1.AG (f := 10) g0 (by decide) rfl) (fun i => qs274.1.AG (f := 11) g0 (by decide) rfl) (fz_keep qs274.1 rfl) (RG.keep (c0 := 0) qs274.1 rfl rfl rfl rfl rfl rfl rfl rfl rfl rfl rfl rfl rfl rfl rfl rfl rfl rfl) qs274.2
                      refine z_aload_n hC (pc := 277) 0 dX14_readBody_277 rfl rfl ?_
                      obtain ⟨g23, h⟩ := h
                      obtain ⟨p24, h⟩ := h
                      refine y_callVi hC (pc := 278) (As := []) (kX14_wholeText l G κ s274 gg g23 Ws274  p24) dmX14_wholeText zf14 rOb_0 dX14_readBody_278 zw3091 rfl rfl (Nat.le_of_ble_eq_true rfl) (Nat.le_of_ble_eq_true rfl) (Nat.le_of_ble_eq_true rfl) (Nat.le_of_ble_eq_true rfl) (Nat.le_of_ble_eq_true rfl) (kk := fun v278 s278 hv278 Ws278 qs278 => ?_)
                      have h := h v278 s278 hv278 Ws278 (CCp.keep qs278.1 rfl rfl rfl rfl rfl rfl rfl) (qs278.1.R rfl) (qs278.1.R rfl) (qs278.1.F rfl) (qs278.1.F rfl) (qs278.1.F rfl) (qs278.1.F rfl) (qs278.1.F rfl) (qs278.1.F rfl) (qs278.1.F rfl) (qs278.1.F rfl) (qs278.1.F rfl) (qs278.1.F rfl) (qs278.1.F rfl) (fun i => qs278.1.A (f := 27) (by decide) rfl) qs278.2
                      exact y_reti hR dX14_readBody_281 rfl hv278 Ws278 (Nat.le_of_ble_eq_true rfl) (Nat.le_of_ble_eq_true rfl) ⟨(rKeep.tr (rKeep.tr (rKeep.tr (rKeep.tr (rKeep.tr rKeep.rf kJ rfl rfl rfl rfl rfl) (rKeep.sF0 (f := 17)) rfl rfl rfl rfl rfl) (rKeep.sF0 (f := 30)) rfl rfl rfl rfl rfl) qs274.1 rfl rfl rfl rfl rfl) qs278.1 rfl rfl rfl rfl rfl), h⟩
                    · have h := hF c
                      refine z_iload_n hC (pc := 223) 2 dX14_readBody_223 rfl rfl ?_
                      refine z_iload_n hC (pc := 224) 1 dX14_readBody_224 rfl rfl ?_
                      refine y_isub hC (pc := 225) (v := (y188_2 - y188_1)) dX14_readBody_225 rfl ?_
                      refine z_istore hC (pc := 226) (lv' := [(4, iv (y188_2 - y188_1)), (0, .ref (κ 0)), (1, iv y188_1), (2, iv y188_2), (3, iv y188_3)]) dX14_readBody_226 (by decide) rfl ?_
                      refine z_iload hC (pc := 228) 0 dX14_readBody_228 rfl ?_
                      have j247 : ∀ (s247 : rS) (y247_1 : Int) (y247_2 : Int), rWF s247 → rng y247_1 → rng y247_2 → rKeep 0x6c0f3e21c00 0x4100001280 0x13c0c000000 0x3ee0000d7f 0 σ s247 → inv_X14_readBody_247 σ gg U g s247 y247_1 y247_2 → zS X G 5 (rW G κ s247) [(0, .ref (κ 0)), (1, iv y247_1), (2, iv y247_2)] 0 0 247 [] := by
                        intro s247 y247_1 y247_2 Ws247 hy247_1 hy247_2 kJ hI
                        have h := h_247  s247 y247_1 y247_2 Ws247 hy247_1 hy247_2 (kJ.R rfl) (kJ.R rfl) (kJ.F rfl) (kJ.F rfl) (kJ.F rfl) (kJ.F rfl) (kJ.F rfl) hI
                        refine z_iload_n hC (pc := 247) 2 dX14_readBody_247 rfl rfl ?_
                        refine z_iload_n hC (pc := 248) 1 dX14_readBody_248 rfl rfl ?_
                        have j268 : ∀ (s268 : rS) (y268_1 : Int) (y268_2 : Int), rWF s268 → rng y268_1 → rng y268_2 → rKeep 0x6c0f3e21c00 0x4100001280 0x13c0c000000 0x3ee0000d7f 0 σ s268 → inv_X14_readBody_268 σ gg U g s268 y268_1 y268_2 → zS X G 5 (rW G κ s268) [(0, .ref (κ 0)), (1, iv y268_1), (2, iv y268_2)] 0 0 268 [] := by
                          intro s268 y268_1 y268_2 Ws268 hy268_1 hy268_2 kJ hI
                          have h := h_268  s268 y268_1 y268_2 Ws268 hy268_1 hy268_2 (kJ.R rfl) (kJ.R rfl) (kJ.F rfl) (kJ.F rfl) (kJ.F rfl) (kJ.F rfl) (kJ.F rfl) hI
                          refine z_goto hC (pc := 268) 282 dX14_readBody_268 (by decide) ?_
                          refine z_goto hC (pc := 282) 296 dX14_readBody_282 (by decide) ?_
                          refine z_iload_n hC (pc := 296) 1 dX14_readBody_296 rfl rfl ?_
                          refine z_istore_n hC (pc := 297) (lv' := [(3, iv y268_1), (0, .ref (κ 0)), (1, iv y268_1), (2, iv y268_2)]) dX14_readBody_297 rfl (by decide) rfl ?_
                          have j298 : ∀ (d298 : Nat), ∀ (s298 : rS) (y298_2 : Int) (y298_3 : Int), rWF s298 → rng y298_2 → rng y298_3 → rKeep 0x6c0f3e21c00 0x4100001280 0x13c0c000000 0x3ee0000d7f 0 σ s298 → inv_X14_readBody_298 σ gg U g s298 y298_2 y298_3 → (mu_X14_readBody_298 σ gg U g s298 y298_2 y298_3) ≤ d298 → zS X G 5 (rW G κ s298) [(0, .ref (κ 0)), (2, iv y298_2), (3, iv y298_3)] 0 0 298 [] := by
                            intro d298
                            induction d298 with
                            | zero =>
                              intro s298 y298_2 y298_3 Ws298 hy298_2 hy298_3 kJ hI hmu
                              exact absurd hmu (by have := h_298m  s298 y298_2 y298_3 Ws298 hy298_2 hy298_3 (kJ.R rfl) (kJ.R rfl) (kJ.F rfl) (kJ.F rfl) (kJ.F rfl) (kJ.F rfl) (kJ.F rfl) hI; omega)
                            | succ d298 ih298 =>
                              intro s298 y298_2 y298_3 Ws298 hy298_2 hy298_3 kJ hI hmu298
                              have h := h_298  s298 y298_2 y298_3 Ws298 hy298_2 hy298_3 (kJ.R rfl) (kJ.R rfl) (kJ.F rfl) (kJ.F rfl) (kJ.F rfl) (kJ.F rfl) (kJ.F rfl) hI
                              refine z_iload_n hC (pc := 298) 2 dX14_readBody_298 rfl rfl ?_
                              refine z_iload_n hC (pc := 299) 1 dX14_readBody_299 rfl rfl ?_
                              obtain ⟨hT, hF⟩ := h
                              refine y_icmp_ge hC (pc := 300) 320 hy298_3 hy298_2 dX14_readBody_300 (by decide) (fun c => ?_) (fun c => ?_)
                              · have h := hT c
                                refine z_aload_n hC (pc := 320) 0 dX14_readBody_320 rfl rfl ?_
                                obtain ⟨g25, h⟩ := h
                                obtain ⟨p26, h⟩ := h
                                refine y_callVi hC (pc := 321) (As := []) (kX14_wholeText l G κ s298 gg g25 Ws298  p26) dmX14_wholeText zf14 rOb_0 dX14_readBody_321 zw3091 rfl rfl (Nat.le_of_ble_eq_true rfl) (Nat.le_of_ble_eq_true rfl) (Nat.le_of_ble_eq_true rfl) (Nat.le_of_ble_eq_true rfl) (Nat.le_of_ble_eq_true rfl) (kk := fun v321 s321 hv321 Ws321 qs321 => ?_)
                                have h := h v321 s321 hv321 Ws321 (CCp.keep qs321.1 rfl rfl rfl rfl rfl rfl rfl) (qs321.1.R rfl) (qs321.1.R rfl) (qs321.1.F rfl) (qs321.1.F rfl) (qs321.1.F rfl) (qs321.1.F rfl) (qs321.1.F rfl) (qs321.1.F rfl) (qs321.1.F rfl) (qs321.1.F rfl) (qs321.1.F rfl) (qs321.1.F rfl) (qs321.1.F rfl) (fun i => qs321.1.A (f := 27) (by decide) rfl) qs321.2
                                exact y_reti hR dX14_readBody_324 rfl hv321 Ws321 (Nat.le_of_ble_eq_true rfl) (Nat.le_of_ble_eq_true rfl) ⟨(rKeep.tr (rKeep.tr rKeep.rf kJ rfl rfl rfl rfl rfl) qs321.1 rfl rfl rfl rfl rfl), h⟩
                              · have h := hF c
                                refine z_aload_n hC (pc := 303) 0 dX14_readBody_303 rfl rfl ?_
                                refine z_aload_n hC (pc := 304) 0 dX14_readBody_304 rfl rfl ?_
                                obtain ⟨g27, h⟩ := h
                                refine y_get hC (pc := 305) zf14 rOb_0 15 (v := .ref (κ (rR s298 15))) dX14_readBody_305 zw2482 (rv_b rfl rfl g27) (kk := ?_)
                                refine z_iload_n hC (pc := 308) 2 dX14_readBody_308 rfl rfl ?_
                                obtain ⟨b28, h⟩ := h
                                refine y_bald hC (pc := 309) (rAr_f g27) dX14_readBody_309 b28 (v := (rA s298 (rR s298 15) y298_3)) rfl (kk := ?_)
                                have h := h (Ws298.a _ _)
                                refine z_iload_n hC (pc := 310) 2 dX14_readBody_310 rfl rfl ?_
                                obtain ⟨p29, h⟩ := h
                                refine y_callVv hC (pc := 311) (As := [iv (rA s298 (rR s298 15) y298_3), iv y298_3]) (kX14_addByte_f l G κ s298 (rA s298 (rR s298 15) y298_3) y298_3 Ws298 (Ws298.a _ _) hy298_3 p29) dmX14_addByte zf14 rOb_0 dX14_readBody_311 zw3087 rfl rfl (Nat.le_of_ble_eq_true rfl) (Nat.le_of_ble_eq_true rfl) (Nat.le_of_ble_eq_true rfl) (Nat.le_of_ble_eq_true rfl) (Nat.le_of_ble_eq_true rfl) (kk := fun s311 Ws311 qs311 => ?_)
                                have h := h s311 Ws311 (rNMp.keep qs311.1 rfl rfl rfl rfl rfl) (PNp.keep qs311.1 rfl rfl rfl rfl rfl) (qs311.1.R rfl) (qs311.1.R rfl) (qs311.1.F rfl) (qs311.1.F rfl) (qs311.1.F rfl) (qs311.1.F rfl) (qs311.1.F rfl) (qs311.1.F rfl) (qs311.1.F rfl) (qs311.1.F rfl) (qs311.1.F rfl) (qs311.1.F rfl) (qs311.1.F rfl) (qs311.1.F rfl) (qs311.1.F rfl) (qs311.1.F rfl) (qs311.1.F rfl) (fun i => qs311.1.A (f := 34) (by decide) rfl) (fun i => qs311.1.A (f := 35) (by decide) rfl) (fun i => qs311.1.A (f := 40) (by decide) rfl) (qs311.1.FG g0 rfl) (qs311.1.FG g0 rfl) (qs311.1.FG g0 rfl) (qs311.1.FG g0 rfl) (qs311.1.FG g0 rfl) (fun i => qs311.1.AG (f := 10) g0 (by decide) rfl) (fun i => qs311.1.AG (f := 11) g0 (by decide) rfl) (fz_keep qs311.1 rfl) (RG.keep (c0 := 0) qs311.1 rfl rfl rfl rfl rfl rfl rfl rfl rfl rfl rfl rfl rfl rfl rfl rfl rfl rfl) qs311.2
                                refine y_iinc hC (pc := 314) (v := (y298_3 + 1)) (lv' := [(3, iv (y298_3 + 1)), (0, .ref (κ 0)), (2, iv y298_2)]) 2 dX14_readBody_314 rfl rfl (by decide) rfl ?_
                                refine z_goto hC (pc := 317) 298 dX14_readBody_317 (by decide) ?_
                                refine z_lvs [1, 2, 0] rfl ?_
                                obtain ⟨r30, h⟩ := h
                                obtain ⟨hI, hm⟩ := h
                                exact ih298 s311 y298_2 (y298_3 + 1) Ws311 hy298_2 r30 (rKeep.tr (rKeep.tr rKeep.rf kJ rfl rfl rfl rfl rfl) qs311.1 rfl rfl rfl rfl rfl) hI (by omega)
                          refine z_lvs [1, 3, 0] rfl ?_
                          exact j298 _ s268 y268_2 y268_1 Ws268 hy268_2 hy268_1 (rKeep.tr rKeep.rf kJ rfl rfl rfl rfl rfl) h (Nat.le_refl _)
                        obtain ⟨hT, hF⟩ := h
                        refine y_icmp_le hC (pc := 249) 268 hy247_2 hy247_1 dX14_readBody_249 (by decide) (fun c => ?_) (fun c => ?_)
                        · have h := hT c
                          exact j268 s247 y247_1 y247_2 Ws247 hy247_1 hy247_2 (rKeep.tr rKeep.rf kJ rfl rfl rfl rfl rfl) h
                        · have h := hF c
                          refine z_aload_n hC (pc := 252) 0 dX14_readBody_252 rfl rfl ?_
                          obtain ⟨g31, h⟩ := h
                          refine y_get hC (pc := 253) zf14 rOb_0 15 (v := .ref (κ (rR s247 15))) dX14_readBody_253 zw2482 (rv_b rfl rfl g31) (kk := ?_)
                          refine z_iload_n hC (pc := 256) 2 dX14_readBody_256 rfl rfl ?_
                          refine z_iconst hC (pc := 257) (v := Int32.ofInt 1) dX14_readBody_257 (by decide) ?_
                          refine y_isub hC (pc := 258) (v := (y247_2 - 1)) dX14_readBody_258 rfl ?_
                          obtain ⟨b32, h⟩ := h
                          refine y_bald hC (pc := 259) (rAr_f g31) dX14_readBody_259 b32 (v := (rA s247 (rR s247 15) (y247_2 - 1))) rfl (kk := ?_)
                          have h := h (Ws247.a _ _)
                          refine z_bipush hC (pc := 260) (v := Int32.ofInt 10) dX14_readBody_260 (by decide) ?_
                          obtain ⟨hT, hF⟩ := h
                          refine y_icmp_ne hC (pc := 262) 268 (Ws247.a _ _) (r_lit rfl) dX14_readBody_262 (by decide) (fun c => ?_) (fun c => ?_)
                          · have h := hT c
                            exact j268 s247 y247_1 y247_2 Ws247 hy247_1 hy247_2 (rKeep.tr rKeep.rf kJ rfl rfl rfl rfl rfl) h
                          · have h := hF c
                            refine y_iinc hC (pc := 265) (v := (y247_2 + (-1))) (lv' := [(2, iv (y247_2 + (-1))), (0, .ref (κ 0)), (1, iv y247_1)]) 2 dX14_readBody_265 rfl rfl (by decide) rfl ?_
                            refine z_lvs [1, 2, 0] rfl ?_
                            obtain ⟨r33, h⟩ := h
                            exact j268 s247 y247_1 (y247_2 + (-1)) Ws247 hy247_1 r33 (rKeep.tr rKeep.rf kJ rfl rfl rfl rfl rfl) h
                      obtain ⟨r34, h⟩ := h
                      obtain ⟨hT, hF⟩ := h
                      refine y_if_le hC (pc := 230) 247 r34 dX14_readBody_230 (by decide) (fun c => ?_) (fun c => ?_)
                      · have h := hT c
                        refine z_lvs [1, 2, 3] rfl ?_
                        exact j247 (sF (sF s188 0 17 (y188_2 + 2)) 0 30 y188_2) y188_1 y188_2 W21 hy188_1 hy188_2 (rKeep.tr (rKeep.tr (rKeep.tr rKeep.rf kJ rfl rfl rfl rfl rfl) (rKeep.sF0 (f := 17)) rfl rfl rfl rfl rfl) (rKeep.sF0 (f := 30)) rfl rfl rfl rfl rfl) h
                      · have h := hF c
                        refine z_aload_n hC (pc := 233) 1 dX14_readBody_233 rfl rfl ?_
                        obtain ⟨g35, h⟩ := h
                        refine y_get hC (pc := 234) zf14 rOb_0 15 (v := .ref (κ (rR s188 15))) dX14_readBody_234 zw2482 (rv_b rfl rfl g35) (kk := ?_)
                        refine z_iload_n hC (pc := 237) 2 dX14_readBody_237 rfl rfl ?_
                        obtain ⟨b36, h⟩ := h
                        refine y_bald hC (pc := 238) (rAr_f g35) dX14_readBody_238 b36 (v := (rA s188 (rR s188 15) y188_1)) rfl (kk := ?_)
                        have h := h (Ws188.a _ _)
                        refine z_bipush hC (pc := 239) (v := Int32.ofInt 10) dX14_readBody_239 (by decide) ?_
                        obtain ⟨hT, hF⟩ := h
                        refine y_icmp_ne hC (pc := 241) 247 (Ws188.a _ _) (r_lit rfl) dX14_readBody_241 (by decide) (fun c => ?_) (fun c => ?_)
                        · have h := hT c
                          refine z_lvs [1, 2, 3] rfl ?_
                          exact j247 (sF (sF s188 0 17 (y188_2 + 2)) 0 30 y188_2) y188_1 y188_2 W21 hy188_1 hy188_2 (rKeep.tr (rKeep.tr (rKeep.tr rKeep.rf kJ rfl rfl rfl rfl rfl) (rKeep.sF0 (f := 17)) rfl rfl rfl rfl rfl) (rKeep.sF0 (f := 30)) rfl rfl rfl rfl rfl) h
                        · have h := hF c
                          refine y_iinc hC (pc := 244) (v := (y188_1 + 1)) (lv' := [(1, iv (y188_1 + 1)), (4, iv (y188_2 - y188_1)), (0, .ref (κ 0)), (2, iv y188_2), (3, iv y188_3)]) 2 dX14_readBody_244 rfl rfl (by decide) rfl ?_
                          refine z_lvs [2, 0, 3] rfl ?_
                          obtain ⟨r37, h⟩ := h
                          exact j247 (sF (sF s188 0 17 (y188_2 + 2)) 0 30 y188_2) (y188_1 + 1) y188_2 W21 r37 hy188_2 (rKeep.tr (rKeep.tr (rKeep.tr rKeep.rf kJ rfl rfl rfl rfl rfl) (rKeep.sF0 (f := 17)) rfl rfl rfl rfl rfl) (rKeep.sF0 (f := 30)) rfl rfl rfl rfl rfl) h
                  · have h := hF c
                    refine z_aload_n hC (pc := 196) 0 dX14_readBody_196 rfl rfl ?_
                    refine z_iconst hC (pc := 197) (v := Int32.ofInt 1) dX14_readBody_197 (by decide) ?_
                    refine z_aload_n hC (pc := 198) 0 dX14_readBody_198 rfl rfl ?_
                    refine y_get hC (pc := 199) zf14 rOb_0 16 (v := iv (rF s188 0 16)) dX14_readBody_199 zw2483 (rv_i (Or.inl rfl) rfl) (kk := ?_)
                    obtain ⟨p38, h⟩ := h
                    refine y_callVv hC (pc := 202) (As := [iv 1, iv (rF s188 0 16)]) (kX14_bad l G κ s188 1 (rF s188 0 16) Ws188 (r_lit rfl) (Ws188.f _ _) p38) dmX14_bad zf14 rOb_0 dX14_readBody_202 zw3000 rfl rfl (Nat.le_of_ble_eq_true rfl) (Nat.le_of_ble_eq_true rfl) (Nat.le_of_ble_eq_true rfl) (Nat.le_of_ble_eq_true rfl) (Nat.le_of_ble_eq_true rfl) (kk := fun s202 Ws202 qs202 => ?_)
                    have h := h s202 Ws202 (rNMp.keep qs202.1 rfl rfl rfl rfl rfl) (PNp.keep qs202.1 rfl rfl rfl rfl rfl) (CCp.keep qs202.1 rfl rfl rfl rfl rfl rfl rfl) (qs202.1.R rfl) (qs202.1.R rfl) (qs202.1.F rfl) (qs202.1.F rfl) (qs202.1.F rfl) (qs202.1.F rfl) (qs202.1.F rfl) (qs202.1.F rfl) (qs202.1.F rfl) (qs202.1.F rfl) (qs202.1.F rfl) (qs202.1.F rfl) (qs202.1.F rfl) (qs202.1.F rfl) (qs202.1.F rfl) (qs202.1.F rfl) (qs202.1.F rfl) (fun i => qs202.1.A (f := 27) (by decide) rfl) (fun i => qs202.1.A (f := 34) (by decide) rfl) (fun i => qs202.1.A (f := 35) (by decide) rfl) (fun i => qs202.1.A (f := 40) (by decide) rfl) (qs202.1.FG g0 rfl) (qs202.1.FG g0 rfl) (qs202.1.FG g0 rfl) (qs202.1.FG g0 rfl) (qs202.1.FG g0 rfl) (fun i => qs202.1.AG (f := 10) g0 (by decide) rfl) (fun i => qs202.1.AG (f := 11) g0 (by decide) rfl) (RG.keep (c0 := 0) qs202.1 rfl rfl rfl rfl rfl rfl rfl rfl rfl rfl rfl rfl rfl rfl rfl rfl rfl rfl) qs202.2
                    refine z_iconst hC (pc := 205) (v := Int32.ofInt 0) dX14_readBody_205 (by decide) ?_
                    exact y_reti hR dX14_readBody_206 rfl (r_lit rfl) Ws202 (Nat.le_of_ble_eq_true rfl) (Nat.le_of_ble_eq_true rfl) ⟨(rKeep.tr (rKeep.tr rKeep.rf kJ rfl rfl rfl rfl rfl) qs202.1 rfl rfl rfl rfl rfl), h⟩
                obtain ⟨hT, hF⟩ := h
                refine y_icmp_ge hC (pc := 148) 188 hy143_2 (Ws143.f _ _) dX14_readBody_148 (by decide) (fun c => ?_) (fun c => ?_)
                · have h := hT c
                  exact j188 s143 y143_1 y143_2 y143_3 Ws143 hy143_1 hy143_2 hy143_3 (rKeep.tr rKeep.rf kJ rfl rfl rfl rfl rfl) h
                · have h := hF c
                  refine z_aload_n hC (pc := 151) 0 dX14_readBody_151 rfl rfl ?_
                  refine z_iload_n hC (pc := 152) 2 dX14_readBody_152 rfl rfl ?_
                  obtain ⟨p39, h⟩ := h
                  refine y_callVi hC (pc := 153) (As := [iv y143_2]) (kX14_fc l G κ s143 y143_2 Ws143 hy143_2 p39) dmX14_fc zf14 rOb_0 dX14_readBody_153 zw2993 rfl rfl (Nat.le_of_ble_eq_true rfl) (Nat.le_of_ble_eq_true rfl) (Nat.le_of_ble_eq_true rfl) (Nat.le_of_ble_eq_true rfl) (Nat.le_of_ble_eq_true rfl) (kk := fun v153 s153 hv153 Ws153 qs153 => ?_)
                  obtain ⟨es153, qs153⟩ := qs153
                  have es153 := es153.symm
                  subst es153
                  have h := h v153 hv153 qs153
                  refine z_iload_n hC (pc := 156) 3 dX14_readBody_156 rfl rfl ?_
                  obtain ⟨hT, hF⟩ := h
                  refine y_if_eq hC (pc := 157) 165 hy143_3 dX14_readBody_157 (by decide) (fun c => ?_) (fun c => ?_)
                  · have h := hT c
                    refine z_bipush hC (pc := 165) (v := Int32.ofInt 37) dX14_readBody_165 (by decide) ?_
                    obtain ⟨hT, hF⟩ := h
                    refine y_icmp_ne hC (pc := 167) 182 hv153 (r_lit rfl) dX14_readBody_167 (by decide) (fun c => ?_) (fun c => ?_)
                    · have h := hT c
                      refine y_iinc hC (pc := 182) (v := (y143_2 + 1)) (lv' := [(2, iv (y143_2 + 1)), (0, .ref (κ 0)), (1, iv y143_1), (3, iv y143_3)]) 2 dX14_readBody_182 rfl rfl (by decide) rfl ?_
                      refine z_goto hC (pc := 185) 143 dX14_readBody_185 (by decide) ?_
                      refine z_lvs [1, 2, 0, 3] rfl ?_
                      obtain ⟨r40, h⟩ := h
                      obtain ⟨hI, hm⟩ := h
                      exact ih143 s143 y143_1 (y143_2 + 1) y143_3 Ws143 hy143_1 r40 hy143_3 (rKeep.tr rKeep.rf kJ rfl rfl rfl rfl rfl) hI (by omega)
                    · have h := hF c
                      refine z_aload_n hC (pc := 170) 0 dX14_readBody_170 rfl rfl ?_
                      refine z_iload_n hC (pc := 171) 2 dX14_readBody_171 rfl rfl ?_
                      refine z_iconst hC (pc := 172) (v := Int32.ofInt 1) dX14_readBody_172 (by decide) ?_
                      refine y_iadd hC (pc := 173) (v := (y143_2 + 1)) dX14_readBody_173 rfl ?_
                      obtain ⟨r41, h⟩ := h
                      obtain ⟨p42, h⟩ := h
                      refine y_callVi hC (pc := 174) (As := [iv (y143_2 + 1)]) (kX14_fc l G κ s143 (y143_2 + 1) Ws143 r41 p42) dmX14_fc zf14 rOb_0 dX14_readBody_174 zw2993 rfl rfl (Nat.le_of_ble_eq_true rfl) (Nat.le_of_ble_eq_true rfl) (Nat.le_of_ble_eq_true rfl) (Nat.le_of_ble_eq_true rfl) (Nat.le_of_ble_eq_true rfl) (kk := fun v174 s174 hv174 Ws174 qs174 => ?_)
                      obtain ⟨es174, qs174⟩ := qs174
                      have es174 := es174.symm
                      subst es174
                      have h := h v174 hv174 qs174
                      refine z_bipush hC (pc := 177) (v := Int32.ofInt 62) dX14_readBody_177 (by decide) ?_
                      obtain ⟨hT, hF⟩ := h
                      refine y_icmp_eq hC (pc := 179) 188 hv174 (r_lit rfl) dX14_readBody_179 (by decide) (fun c => ?_) (fun c => ?_)
                      · have h := hT c
                        exact j188 s143 y143_1 y143_2 y143_3 Ws143 hy143_1 hy143_2 hy143_3 (rKeep.tr rKeep.rf kJ rfl rfl rfl rfl rfl) h
                      · have h := hF c
                        refine y_iinc hC (pc := 182) (v := (y143_2 + 1)) (lv' := [(2, iv (y143_2 + 1)), (0, .ref (κ 0)), (1, iv y143_1), (3, iv y143_3)]) 2 dX14_readBody_182 rfl rfl (by decide) rfl ?_
                        refine z_goto hC (pc := 185) 143 dX14_readBody_185 (by decide) ?_
                        refine z_lvs [1, 2, 0, 3] rfl ?_
                        obtain ⟨hI, hm⟩ := h
                        exact ih143 s143 y143_1 (y143_2 + 1) y143_3 Ws143 hy143_1 r41 hy143_3 (rKeep.tr rKeep.rf kJ rfl rfl rfl rfl rfl) hI (by omega)
                  · have h := hF c
                    refine z_bipush hC (pc := 160) (v := Int32.ofInt 62) dX14_readBody_160 (by decide) ?_
                    refine z_goto hC (pc := 162) 167 dX14_readBody_162 (by decide) ?_
                    obtain ⟨hT, hF⟩ := h
                    refine y_icmp_ne hC (pc := 167) 182 hv153 (r_lit rfl) dX14_readBody_167 (by decide) (fun c => ?_) (fun c => ?_)
                    · have h := hT c
                      refine y_iinc hC (pc := 182) (v := (y143_2 + 1)) (lv' := [(2, iv (y143_2 + 1)), (0, .ref (κ 0)), (1, iv y143_1), (3, iv y143_3)]) 2 dX14_readBody_182 rfl rfl (by decide) rfl ?_
                      refine z_goto hC (pc := 185) 143 dX14_readBody_185 (by decide) ?_
                      refine z_lvs [1, 2, 0, 3] rfl ?_
                      obtain ⟨r43, h⟩ := h
                      obtain ⟨hI, hm⟩ := h
                      exact ih143 s143 y143_1 (y143_2 + 1) y143_3 Ws143 hy143_1 r43 hy143_3 (rKeep.tr rKeep.rf kJ rfl rfl rfl rfl rfl) hI (by omega)
                    · have h := hF c
                      refine z_aload_n hC (pc := 170) 0 dX14_readBody_170 rfl rfl ?_
                      refine z_iload_n hC (pc := 171) 2 dX14_readBody_171 rfl rfl ?_
                      refine z_iconst hC (pc := 172) (v := Int32.ofInt 1) dX14_readBody_172 (by decide) ?_
                      refine y_iadd hC (pc := 173) (v := (y143_2 + 1)) dX14_readBody_173 rfl ?_
                      obtain ⟨r44, h⟩ := h
                      obtain ⟨p45, h⟩ := h
                      refine y_callVi hC (pc := 174) (As := [iv (y143_2 + 1)]) (kX14_fc l G κ s143 (y143_2 + 1) Ws143 r44 p45) dmX14_fc zf14 rOb_0 dX14_readBody_174 zw2993 rfl rfl (Nat.le_of_ble_eq_true rfl) (Nat.le_of_ble_eq_true rfl) (Nat.le_of_ble_eq_true rfl) (Nat.le_of_ble_eq_true rfl) (Nat.le_of_ble_eq_true rfl) (kk := fun v174 s174 hv174 Ws174 qs174 => ?_)
                      obtain ⟨es174, qs174⟩ := qs174
                      have es174 := es174.symm
                      subst es174
                      have h := h v174 hv174 qs174
                      refine z_bipush hC (pc := 177) (v := Int32.ofInt 62) dX14_readBody_177 (by decide) ?_
                      obtain ⟨hT, hF⟩ := h
                      refine y_icmp_eq hC (pc := 179) 188 hv174 (r_lit rfl) dX14_readBody_179 (by decide) (fun c => ?_) (fun c => ?_)
                      · have h := hT c
                        exact j188 s143 y143_1 y143_2 y143_3 Ws143 hy143_1 hy143_2 hy143_3 (rKeep.tr rKeep.rf kJ rfl rfl rfl rfl rfl) h
                      · have h := hF c
                        refine y_iinc hC (pc := 182) (v := (y143_2 + 1)) (lv' := [(2, iv (y143_2 + 1)), (0, .ref (κ 0)), (1, iv y143_1), (3, iv y143_3)]) 2 dX14_readBody_182 rfl rfl (by decide) rfl ?_
                        refine z_goto hC (pc := 185) 143 dX14_readBody_185 (by decide) ?_
                        refine z_lvs [1, 2, 0, 3] rfl ?_
                        obtain ⟨hI, hm⟩ := h
                        exact ih143 s143 y143_1 (y143_2 + 1) y143_3 Ws143 hy143_1 r44 hy143_3 (rKeep.tr rKeep.rf kJ rfl rfl rfl rfl rfl) hI (by omega)
            refine z_lvs [3, 1, 0, 2] rfl ?_
            obtain ⟨r46, h⟩ := h
            exact j143 _ s113 ((rF s113 0 17) + 2) ((rF s113 0 17) + 2) 0 Ws113 r46 r46 (r_lit rfl) (rKeep.tr rKeep.rf kJ rfl rfl rfl rfl rfl) h (Nat.le_refl _)
          · have h := hF c
            refine z_iconst hC (pc := 128) (v := Int32.ofInt 1) dX14_readBody_128 (by decide) ?_
            refine z_goto hC (pc := 129) 133 dX14_readBody_129 (by decide) ?_
            refine z_istore_n hC (pc := 133) (lv' := [(3, iv 1), (0, .ref (κ 0))]) dX14_readBody_133 rfl (by decide) rfl ?_
            refine z_aload_n hC (pc := 134) 1 dX14_readBody_134 rfl rfl ?_
            refine y_get hC (pc := 135) zf14 rOb_0 17 (v := iv (rF s113 0 17)) dX14_readBody_135 zw2484 (rv_i (Or.inl rfl) rfl) (kk := ?_)
            refine z_iconst hC (pc := 138) (v := Int32.ofInt 2) dX14_readBody_138 (by decide) ?_
            refine y_iadd hC (pc := 139) (v := ((rF s113 0 17) + 2)) dX14_readBody_139 rfl ?_
            refine z_istore_n hC (pc := 140) (lv' := [(1, iv ((rF s113 0 17) + 2)), (3, iv 1), (0, .ref (κ 0))]) dX14_readBody_140 rfl (by decide) rfl ?_
            refine z_iload_n hC (pc := 141) 0 dX14_readBody_141 rfl rfl ?_
            refine z_istore_n hC (pc := 142) (lv' := [(2, iv ((rF s113 0 17) + 2)), (1, iv ((rF s113 0 17) + 2)), (3, iv 1), (0, .ref (κ 0))]) dX14_readBody_142 rfl (by decide) rfl ?_
            have j143 : ∀ (d143 : Nat), ∀ (s143 : rS) (y143_1 : Int) (y143_2 : Int) (y143_3 : Int), rWF s143 → rng y143_1 → rng y143_2 → rng y143_3 → rKeep 0x6c0f3e21c00 0x4100001280 0x13c0c000000 0x3ee0000d7f 0 σ s143 → inv_X14_readBody_143 σ gg U g s143 y143_1 y143_2 y143_3 → (mu_X14_readBody_143 σ gg U g s143 y143_1 y143_2 y143_3) ≤ d143 → zS X G 5 (rW G κ s143) [(0, .ref (κ 0)), (1, iv y143_1), (2, iv y143_2), (3, iv y143_3)] 0 0 143 [] := by
              intro d143
              induction d143 with
              | zero =>
                intro s143 y143_1 y143_2 y143_3 Ws143 hy143_1 hy143_2 hy143_3 kJ hI hmu
                exact absurd hmu (by have := h_143m  s143 y143_1 y143_2 y143_3 Ws143 hy143_1 hy143_2 hy143_3 (kJ.R rfl) (kJ.R rfl) (kJ.F rfl) (kJ.F rfl) (kJ.F rfl) (kJ.F rfl) (kJ.F rfl) hI; omega)
              | succ d143 ih143 =>
                intro s143 y143_1 y143_2 y143_3 Ws143 hy143_1 hy143_2 hy143_3 kJ hI hmu143
                have h := h_143  s143 y143_1 y143_2 y143_3 Ws143 hy143_1 hy143_2 hy143_3 (kJ.R rfl) (kJ.R rfl) (kJ.F rfl) (kJ.F rfl) (kJ.F rfl) (kJ.F rfl) (kJ.F rfl) hI
                refine z_iload_n hC (pc := 143) 2 dX14_readBody_143 rfl rfl ?_
                refine z_aload_n hC (pc := 144) 0 dX14_readBody_144 rfl rfl ?_
                refine y_get hC (pc := 145) zf14 rOb_0 16 (v := iv (rF s143 0 16)) dX14_readBody_145 zw2483 (rv_i (Or.inl rfl) rfl) (kk := ?_)
                have h := h (Ws143.f _ _)
                have j188 : ∀ (s188 : rS) (y188_1 : Int) (y188_2 : Int) (y188_3 : Int), rWF s188 → rng y188_1 → rng y188_2 → rng y188_3 → rKeep 0x6c0f3e21c00 0x4100001280 0x13c0c000000 0x3ee0000d7f 0 σ s188 → inv_X14_readBody_188 σ gg U g s188 y188_1 y188_2 y188_3 → zS X G 5 (rW G κ s188) [(0, .ref (κ 0)), (1, iv y188_1), (2, iv y188_2), (3, iv y188_3)] 0 0 188 [] := by
                  intro s188 y188_1 y188_2 y188_3 Ws188 hy188_1 hy188_2 hy188_3 kJ hI
                  have h := h_188  s188 y188_1 y188_2 y188_3 Ws188 hy188_1 hy188_2 hy188_3 (kJ.R rfl) (kJ.R rfl) (kJ.F rfl) (kJ.F rfl) (kJ.F rfl) (kJ.F rfl) (kJ.F rfl) hI
                  refine z_iload_n hC (pc := 188) 2 dX14_readBody_188 rfl rfl ?_
                  refine z_aload_n hC (pc := 189) 0 dX14_readBody_189 rfl rfl ?_
                  refine y_get hC (pc := 190) zf14 rOb_0 16 (v := iv (rF s188 0 16)) dX14_readBody_190 zw2483 (rv_i (Or.inl rfl) rfl) (kk := ?_)
                  have h := h (Ws188.f _ _)
                  obtain ⟨hT, hF⟩ := h
                  refine y_icmp_lt hC (pc := 193) 207 hy188_2 (Ws188.f _ _) dX14_readBody_193 (by decide) (fun c => ?_) (fun c => ?_)
                  · have h := hT c
                    refine z_aload_n hC (pc := 207) 0 dX14_readBody_207 rfl rfl ?_
                    refine z_iload_n hC (pc := 208) 2 dX14_readBody_208 rfl rfl ?_
                    refine z_iconst hC (pc := 209) (v := Int32.ofInt 2) dX14_readBody_209 (by decide) ?_
                    refine y_iadd hC (pc := 210) (v := (y188_2 + 2)) dX14_readBody_210 rfl ?_
                    obtain ⟨r47, h⟩ := h
                    refine y_putI hC (pc := 211) zf14 rOb_0 17 (x := (y188_2 + 2)) dX14_readBody_211 zw2484 (Or.inl rfl) rfl rfl (kk := ?_)
                    have W48 := Ws188.sF (q := 0) (f := 17) (x := (y188_2 + 2)) r47
                    refine z_aload_n hC (pc := 214) 0 dX14_readBody_214 rfl rfl ?_
                    refine z_iload_n hC (pc := 215) 2 dX14_readBody_215 rfl rfl ?_
                    refine y_putI hC (pc := 216) zf14 rOb_0 30 (x := y188_2) dX14_readBody_216 zw2497 (Or.inl rfl) rfl rfl (kk := ?_)
                    have W49 := W48.sF (q := 0) (f := 30) (x := y188_2) hy188_2
                    refine z_iload_n hC (pc := 219) 3 dX14_readBody_219 rfl rfl ?_
                    obtain ⟨hT, hF⟩ := h
                    refine y_if_eq hC (pc := 220) 271 hy188_3 dX14_readBody_220 (by decide) (fun c => ?_) (fun c => ?_)
                    · have h := hT c
                      refine z_aload_n hC (pc := 271) 0 dX14_readBody_271 rfl rfl ?_
                      refine z_iload_n hC (pc := 272) 1 dX14_readBody_272 rfl rfl ?_
                      refine z_iload_n hC (pc := 273) 2 dX14_readBody_273 rfl rfl ?_
                      obtain ⟨p50, h⟩ := h
                      refine y_callVv hC (pc := 274) (As := [iv y188_1, iv y188_2]) (kX14_packed_f l G κ (sF (sF s188 0 17 (y188_2 + 2)) 0 30 y188_2) y188_1 y188_2 W49 hy188_1 hy188_2 p50) dmX14_packed zf14 rOb_0 dX14_readBody_274 zw3083 rfl rfl (Nat.le_of_ble_eq_true rfl) (Nat.le_of_ble_eq_true rfl) (Nat.le_of_ble_eq_true rfl) (Nat.le_of_ble_eq_true rfl) (Nat.le_of_ble_eq_true rfl) (kk := fun s274 Ws274 qs274 => ?_)
                      have h := h s274 Ws274 (rNMp.keep qs274.1 rfl rfl rfl rfl rfl) (PNp.keep qs274.1 rfl rfl rfl rfl rfl) (qs274.1.R rfl) (qs274.1.R rfl) (qs274.1.F rfl) (qs274.1.F rfl) (qs274.1.F rfl) (qs274.1.F rfl) (qs274.1.F rfl) (qs274.1.F rfl) (qs274.1.F rfl) (qs274.1.F rfl) (qs274.1.F rfl) (qs274.1.F rfl) (qs274.1.F rfl) (qs274.1.F rfl) (qs274.1.F rfl) (qs274.1.F rfl) (qs274.1.F rfl) (fun i => qs274.1.A (f := 34) (by decide) rfl) (fun i => qs274.1.A (f := 35) (by decide) rfl) (fun i => qs274.1.A (f := 40) (by decide) rfl) (qs274.1.FG g0 rfl) (qs274.1.FG g0 rfl) (qs274.1.FG g0 rfl) (qs274.1.FG g0 rfl) (qs274.1.FG g0 rfl) (fun i => qs274.1.AG (f := 10) g0 (by decide) rfl) (fun i => qs274.1.AG (f := 11) g0 (by decide) rfl) (fz_keep qs274.1 rfl) (RG.keep (c0 := 0) qs274.1 rfl rfl rfl rfl rfl rfl rfl rfl rfl rfl rfl rfl rfl rfl rfl rfl rfl rfl) qs274.2
                      refine z_aload_n hC (pc := 277) 0 dX14_readBody_277 rfl rfl ?_
                      obtain ⟨g51, h⟩ := h
                      obtain ⟨p52, h⟩ := h
                      refine y_callVi hC (pc := 278) (As := []) (kX14_wholeText l G κ s274 gg g51 Ws274  p52) dmX14_wholeText zf14 rOb_0 dX14_readBody_278 zw3091 rfl rfl (Nat.le_of_ble_eq_true rfl) (Nat.le_of_ble_eq_true rfl) (Nat.le_of_ble_eq_true rfl) (Nat.le_of_ble_eq_true rfl) (Nat.le_of_ble_eq_true rfl) (kk := fun v278 s278 hv278 Ws278 qs278 => ?_)
                      have h := h v278 s278 hv278 Ws278 (CCp.keep qs278.1 rfl rfl rfl rfl rfl rfl rfl) (qs278.1.R rfl) (qs278.1.R rfl) (qs278.1.F rfl) (qs278.1.F rfl) (qs278.1.F rfl) (qs278.1.F rfl) (qs278.1.F rfl) (qs278.1.F rfl) (qs278.1.F rfl) (qs278.1.F rfl) (qs278.1.F rfl) (qs278.1.F rfl) (qs278.1.F rfl) (fun i => qs278.1.A (f := 27) (by decide) rfl) qs278.2
                      exact y_reti hR dX14_readBody_281 rfl hv278 Ws278 (Nat.le_of_ble_eq_true rfl) (Nat.le_of_ble_eq_true rfl) ⟨(rKeep.tr (rKeep.tr (rKeep.tr (rKeep.tr (rKeep.tr rKeep.rf kJ rfl rfl rfl rfl rfl) (rKeep.sF0 (f := 17)) rfl rfl rfl rfl rfl) (rKeep.sF0 (f := 30)) rfl rfl rfl rfl rfl) qs274.1 rfl rfl rfl rfl rfl) qs278.1 rfl rfl rfl rfl rfl), h⟩
                    · have h := hF c
                      refine z_iload_n hC (pc := 223) 2 dX14_readBody_223 rfl rfl ?_
                      refine z_iload_n hC (pc := 224) 1 dX14_readBody_224 rfl rfl ?_
                      refine y_isub hC (pc := 225) (v := (y188_2 - y188_1)) dX14_readBody_225 rfl ?_
                      refine z_istore hC (pc := 226) (lv' := [(4, iv (y188_2 - y188_1)), (0, .ref (κ 0)), (1, iv y188_1), (2, iv y188_2), (3, iv y188_3)]) dX14_readBody_226 (by decide) rfl ?_
                      refine z_iload hC (pc := 228) 0 dX14_readBody_228 rfl ?_
                      have j247 : ∀ (s247 : rS) (y247_1 : Int) (y247_2 : Int), rWF s247 → rng y247_1 → rng y247_2 → rKeep 0x6c0f3e21c00 0x4100001280 0x13c0c000000 0x3ee0000d7f 0 σ s247 → inv_X14_readBody_247 σ gg U g s247 y247_1 y247_2 → zS X G 5 (rW G κ s247) [(0, .ref (κ 0)), (1, iv y247_1), (2, iv y247_2)] 0 0 247 [] := by
                        intro s247 y247_1 y247_2 Ws247 hy247_1 hy247_2 kJ hI
                        have h := h_247  s247 y247_1 y247_2 Ws247 hy247_1 hy247_2 (kJ.R rfl) (kJ.R rfl) (kJ.F rfl) (kJ.F rfl) (kJ.F rfl) (kJ.F rfl) (kJ.F rfl) hI
                        refine z_iload_n hC (pc := 247) 2 dX14_readBody_247 rfl rfl ?_
                        refine z_iload_n hC (pc := 248) 1 dX14_readBody_248 rfl rfl ?_
                        have j268 : ∀ (s268 : rS) (y268_1 : Int) (y268_2 : Int), rWF s268 → rng y268_1 → rng y268_2 → rKeep 0x6c0f3e21c00 0x4100001280 0x13c0c000000 0x3ee0000d7f 0 σ s268 → inv_X14_readBody_268 σ gg U g s268 y268_1 y268_2 → zS X G 5 (rW G κ s268) [(0, .ref (κ 0)), (1, iv y268_1), (2, iv y268_2)] 0 0 268 [] := by
                          intro s268 y268_1 y268_2 Ws268 hy268_1 hy268_2 kJ hI
                          have h := h_268  s268 y268_1 y268_2 Ws268 hy268_1 hy268_2 (kJ.R rfl) (kJ.R rfl) (kJ.F rfl) (kJ.F rfl) (kJ.F rfl) (kJ.F rfl) (kJ.F rfl) hI
                          refine z_goto hC (pc := 268) 282 dX14_readBody_268 (by decide) ?_
                          refine z_goto hC (pc := 282) 296 dX14_readBody_282 (by decide) ?_
                          refine z_iload_n hC (pc := 296) 1 dX14_readBody_296 rfl rfl ?_
                          refine z_istore_n hC (pc := 297) (lv' := [(3, iv y268_1), (0, .ref (κ 0)), (1, iv y268_1), (2, iv y268_2)]) dX14_readBody_297 rfl (by decide) rfl ?_
                          have j298 : ∀ (d298 : Nat), ∀ (s298 : rS) (y298_2 : Int) (y298_3 : Int), rWF s298 → rng y298_2 → rng y298_3 → rKeep 0x6c0f3e21c00 0x4100001280 0x13c0c000000 0x3ee0000d7f 0 σ s298 → inv_X14_readBody_298 σ gg U g s298 y298_2 y298_3 → (mu_X14_readBody_298 σ gg U g s298 y298_2 y298_3) ≤ d298 → zS X G 5 (rW G κ s298) [(0, .ref (κ 0)), (2, iv y298_2), (3, iv y298_3)] 0 0 298 [] := by
                            intro d298
                            induction d298 with
                            | zero =>
                              intro s298 y298_2 y298_3 Ws298 hy298_2 hy298_3 kJ hI hmu
                              exact absurd hmu (by have := h_298m  s298 y298_2 y298_3 Ws298 hy298_2 hy298_3 (kJ.R rfl) (kJ.R rfl) (kJ.F rfl) (kJ.F rfl) (kJ.F rfl) (kJ.F rfl) (kJ.F rfl) hI; omega)
                            | succ d298 ih298 =>
                              intro s298 y298_2 y298_3 Ws298 hy298_2 hy298_3 kJ hI hmu298
                              have h := h_298  s298 y298_2 y298_3 Ws298 hy298_2 hy298_3 (kJ.R rfl) (kJ.R rfl) (kJ.F rfl) (kJ.F rfl) (kJ.F rfl) (kJ.F rfl) (kJ.F rfl) hI
                              refine z_iload_n hC (pc := 298) 2 dX14_readBody_298 rfl rfl ?_
                              refine z_iload_n hC (pc := 299) 1 dX14_readBody_299 rfl rfl ?_
                              obtain ⟨hT, hF⟩ := h
                              refine y_icmp_ge hC (pc := 300) 320 hy298_3 hy298_2 dX14_readBody_300 (by decide) (fun c => ?_) (fun c => ?_)
                              · have h := hT c
                                refine z_aload_n hC (pc := 320) 0 dX14_readBody_320 rfl rfl ?_
                                obtain ⟨g53, h⟩ := h
                                obtain ⟨p54, h⟩ := h
                                refine y_callVi hC (pc := 321) (As := []) (kX14_wholeText l G κ s298 gg g53 Ws298  p54) dmX14_wholeText zf14 rOb_0 dX14_readBody_321 zw3091 rfl rfl (Nat.le_of_ble_eq_true rfl) (Nat.le_of_ble_eq_true rfl) (Nat.le_of_ble_eq_true rfl) (Nat.le_of_ble_eq_true rfl) (Nat.le_of_ble_eq_true rfl) (kk := fun v321 s321 hv321 Ws321 qs321 => ?_)
                                have h := h v321 s321 hv321 Ws321 (CCp.keep qs321.1 rfl rfl rfl rfl rfl rfl rfl) (qs321.1.R rfl) (qs321.1.R rfl) (qs321.1.F rfl) (qs321.1.F rfl) (qs321.1.F rfl) (qs321.1.F rfl) (qs321.1.F rfl) (qs321.1.F rfl) (qs321.1.F rfl) (qs321.1.F rfl) (qs321.1.F rfl) (qs321.1.F rfl) (qs321.1.F rfl) (fun i => qs321.1.A (f := 27) (by decide) rfl) qs321.2
                                exact y_reti hR dX14_readBody_324 rfl hv321 Ws321 (Nat.le_of_ble_eq_true rfl) (Nat.le_of_ble_eq_true rfl) ⟨(rKeep.tr (rKeep.tr rKeep.rf kJ rfl rfl rfl rfl rfl) qs321.1 rfl rfl rfl rfl rfl), h⟩
                              · have h := hF c
                                refine z_aload_n hC (pc := 303) 0 dX14_readBody_303 rfl rfl ?_
                                refine z_aload_n hC (pc := 304) 0 dX14_readBody_304 rfl rfl ?_
                                obtain ⟨g55, h⟩ := h
                                refine y_get hC (pc := 305) zf14 rOb_0 15 (v := .ref (κ (rR s298 15))) dX14_readBody_305 zw2482 (rv_b rfl rfl g55) (kk := ?_)
                                refine z_iload_n hC (pc := 308) 2 dX14_readBody_308 rfl rfl ?_
                                obtain ⟨b56, h⟩ := h
                                refine y_bald hC (pc := 309) (rAr_f g55) dX14_readBody_309 b56 (v := (rA s298 (rR s298 15) y298_3)) rfl (kk := ?_)
                                have h := h (Ws298.a _ _)
                                refine z_iload_n hC (pc := 310) 2 dX14_readBody_310 rfl rfl ?_
                                obtain ⟨p57, h⟩ := h
                                refine y_callVv hC (pc := 311) (As := [iv (rA s298 (rR s298 15) y298_3), iv y298_3]) (kX14_addByte_f l G κ s298 (rA s298 (rR s298 15) y298_3) y298_3 Ws298 (Ws298.a _ _) hy298_3 p57) dmX14_addByte zf14 rOb_0 dX14_readBody_311 zw3087 rfl rfl (Nat.le_of_ble_eq_true rfl) (Nat.le_of_ble_eq_true rfl) (Nat.le_of_ble_eq_true rfl) (Nat.le_of_ble_eq_true rfl) (Nat.le_of_ble_eq_true rfl) (kk := fun s311 Ws311 qs311 => ?_)
                                have h := h s311 Ws311 (rNMp.keep qs311.1 rfl rfl rfl rfl rfl) (PNp.keep qs311.1 rfl rfl rfl rfl rfl) (qs311.1.R rfl) (qs311.1.R rfl) (qs311.1.F rfl) (qs311.1.F rfl) (qs311.1.F rfl) (qs311.1.F rfl) (qs311.1.F rfl) (qs311.1.F rfl) (qs311.1.F rfl) (qs311.1.F rfl) (qs311.1.F rfl) (qs311.1.F rfl) (qs311.1.F rfl) (qs311.1.F rfl) (qs311.1.F rfl) (qs311.1.F rfl) (qs311.1.F rfl) (fun i => qs311.1.A (f := 34) (by decide) rfl) (fun i => qs311.1.A (f := 35) (by decide) rfl) (fun i => qs311.1.A (f := 40) (by decide) rfl) (qs311.1.FG g0 rfl) (qs311.1.FG g0 rfl) (qs311.1.FG g0 rfl) (qs311.1.FG g0 rfl) (qs311.1.FG g0 rfl) (fun i => qs311.1.AG (f := 10) g0 (by decide) rfl) (fun i => qs311.1.AG (f := 11) g0 (by decide) rfl) (fz_keep qs311.1 rfl) (RG.keep (c0 := 0) qs311.1 rfl rfl rfl rfl rfl rfl rfl rfl rfl rfl rfl rfl rfl rfl rfl rfl rfl rfl) qs311.2
                                refine y_iinc hC (pc := 314) (v := (y298_3 + 1)) (lv' := [(3, iv (y298_3 + 1)), (0, .ref (κ 0)), (2, iv y298_2)]) 2 dX14_readBody_314 rfl rfl (by decide) rfl ?_
                                refine z_goto hC (pc := 317) 298 dX14_readBody_317 (by decide) ?_
                                refine z_lvs [1, 2, 0] rfl ?_
                                obtain ⟨r58, h⟩ := h
                                obtain ⟨hI, hm⟩ := h
                                exact ih298 s311 y298_2 (y298_3 + 1) Ws311 hy298_2 r58 (rKeep.tr (rKeep.tr rKeep.rf kJ rfl rfl rfl rfl rfl) qs311.1 rfl rfl rfl rfl rfl) hI (by omega)
                          refine z_lvs [1, 3, 0] rfl ?_
                          exact j298 _ s268 y268_2 y268_1 Ws268 hy268_2 hy268_1 (rKeep.tr rKeep.rf kJ rfl rfl rfl rfl rfl) h (Nat.le_refl _)
                        obtain ⟨hT, hF⟩ := h
                        refine y_icmp_le hC (pc := 249) 268 hy247_2 hy247_1 dX14_readBody_249 (by decide) (fun c => ?_) (fun c => ?_)
                        · have h := hT c
                          exact j268 s247 y247_1 y247_2 Ws247 hy247_1 hy247_2 (rKeep.tr rKeep.rf kJ rfl rfl rfl rfl rfl) h
                        · have h := hF c
                          refine z_aload_n hC (pc := 252) 0 dX14_readBody_252 rfl rfl ?_
                          obtain ⟨g59, h⟩ := h
                          refine y_get hC (pc := 253) zf14 rOb_0 15 (v := .ref (κ (rR s247 15))) dX14_readBody_253 zw2482 (rv_b rfl rfl g59) (kk := ?_)
                          refine z_iload_n hC (pc := 256) 2 dX14_readBody_256 rfl rfl ?_
                          refine z_iconst hC (pc := 257) (v := Int32.ofInt 1) dX14_readBody_257 (by decide) ?_
                          refine y_isub hC (pc := 258) (v := (y247_2 - 1)) dX14_readBody_258 rfl ?_
                          obtain ⟨b60, h⟩ := h
                          refine y_bald hC (pc := 259) (rAr_f g59) dX14_readBody_259 b60 (v := (rA s247 (rR s247 15) (y247_2 - 1))) rfl (kk := ?_)
                          have h := h (Ws247.a _ _)
                          refine z_bipush hC (pc := 260) (v := Int32.ofInt 10) dX14_readBody_260 (by decide) ?_
                          obtain ⟨hT, hF⟩ := h
                          refine y_icmp_ne hC (pc := 262) 268 (Ws247.a _ _) (r_lit rfl) dX14_readBody_262 (by decide) (fun c => ?_) (fun c => ?_)
                          · have h := hT c
                            exact j268 s247 y247_1 y247_2 Ws247 hy247_1 hy247_2 (rKeep.tr rKeep.rf kJ rfl rfl rfl rfl rfl) h
                          · have h := hF c
                            refine y_iinc hC (pc := 265) (v := (y247_2 + (-1))) (lv' := [(2, iv (y247_2 + (-1))), (0, .ref (κ 0)), (1, iv y247_1)]) 2 dX14_readBody_265 rfl rfl (by decide) rfl ?_
                            refine z_lvs [1, 2, 0] rfl ?_
                            obtain ⟨r61, h⟩ := h
                            exact j268 s247 y247_1 (y247_2 + (-1)) Ws247 hy247_1 r61 (rKeep.tr rKeep.rf kJ rfl rfl rfl rfl rfl) h
                      obtain ⟨r62, h⟩ := h
                      obtain ⟨hT, hF⟩ := h
                      refine y_if_le hC (pc := 230) 247 r62 dX14_readBody_230 (by decide) (fun c => ?_) (fun c => ?_)
                      · have h := hT c
                        refine z_lvs [1, 2, 3] rfl ?_
                        exact j247 (sF (sF s188 0 17 (y188_2 + 2)) 0 30 y188_2) y188_1 y188_2 W49 hy188_1 hy188_2 (rKeep.tr (rKeep.tr (rKeep.tr rKeep.rf kJ rfl rfl rfl rfl rfl) (rKeep.sF0 (f := 17)) rfl rfl rfl rfl rfl) (rKeep.sF0 (f := 30)) rfl rfl rfl rfl rfl) h
                      · have h := hF c
                        refine z_aload_n hC (pc := 233) 1 dX14_readBody_233 rfl rfl ?_
                        obtain ⟨g63, h⟩ := h
                        refine y_get hC (pc := 234) zf14 rOb_0 15 (v := .ref (κ (rR s188 15))) dX14_readBody_234 zw2482 (rv_b rfl rfl g63) (kk := ?_)
                        refine z_iload_n hC (pc := 237) 2 dX14_readBody_237 rfl rfl ?_
                        obtain ⟨b64, h⟩ := h
                        refine y_bald hC (pc := 238) (rAr_f g63) dX14_readBody_238 b64 (v := (rA s188 (rR s188 15) y188_1)) rfl (kk := ?_)
                        have h := h (Ws188.a _ _)
                        refine z_bipush hC (pc := 239) (v := Int32.ofInt 10) dX14_readBody_239 (by decide) ?_
                        obtain ⟨hT, hF⟩ := h
                        refine y_icmp_ne hC (pc := 241) 247 (Ws188.a _ _) (r_lit rfl) dX14_readBody_241 (by decide) (fun c => ?_) (fun c => ?_)
                        · have h := hT c
                          refine z_lvs [1, 2, 3] rfl ?_
                          exact j247 (sF (sF s188 0 17 (y188_2 + 2)) 0 30 y188_2) y188_1 y188_2 W49 hy188_1 hy188_2 (rKeep.tr (rKeep.tr (rKeep.tr rKeep.rf kJ rfl rfl rfl rfl rfl) (rKeep.sF0 (f := 17)) rfl rfl rfl rfl rfl) (rKeep.sF0 (f := 30)) rfl rfl rfl rfl rfl) h
                        · have h := hF c
                          refine y_iinc hC (pc := 244) (v := (y188_1 + 1)) (lv' := [(1, iv (y188_1 + 1)), (4, iv (y188_2 - y188_1)), (0, .ref (κ 0)), (2, iv y188_2), (3, iv y188_3)]) 2 dX14_readBody_244 rfl rfl (by decide) rfl ?_
                          refine z_lvs [2, 0, 3] rfl ?_
                          obtain ⟨r65, h⟩ := h
                          exact j247 (sF (sF s188 0 17 (y188_2 + 2)) 0 30 y188_2) (y188_1 + 1) y188_2 W49 r65 hy188_2 (rKeep.tr (rKeep.tr (rKeep.tr rKeep.rf kJ rfl rfl rfl rfl rfl) (rKeep.sF0 (f := 17)) rfl rfl rfl rfl rfl) (rKeep.sF0 (f := 30)) rfl rfl rfl rfl rfl) h
                  · have h := hF c
                    refine z_aload_n hC (pc := 196) 0 dX14_readBody_196 rfl rfl ?_
                    refine z_iconst hC (pc := 197) (v := Int32.ofInt 1) dX14_readBody_197 (by decide) ?_
                    refine z_aload_n hC (pc := 198) 0 dX14_readBody_198 rfl rfl ?_
                    refine y_get hC (pc := 199) zf14 rOb_0 16 (v := iv (rF s188 0 16)) dX14_readBody_199 zw2483 (rv_i (Or.inl rfl) rfl) (kk := ?_)
                    obtain ⟨p66, h⟩ := h
                    refine y_callVv hC (pc := 202) (As := [iv 1, iv (rF s188 0 16)]) (kX14_bad l G κ s188 1 (rF s188 0 16) Ws188 (r_lit rfl) (Ws188.f _ _) p66) dmX14_bad zf14 rOb_0 dX14_readBody_202 zw3000 rfl rfl (Nat.le_of_ble_eq_true rfl) (Nat.le_of_ble_eq_true rfl) (Nat.le_of_ble_eq_true rfl) (Nat.le_of_ble_eq_true rfl) (Nat.le_of_ble_eq_true rfl) (kk := fun s202 Ws202 qs202 => ?_)
                    have h := h s202 Ws202 (rNMp.keep qs202.1 rfl rfl rfl rfl rfl) (PNp.keep qs202.1 rfl rfl rfl rfl rfl) (CCp.keep qs202.1 rfl rfl rfl rfl rfl rfl rfl) (qs202.1.R rfl) (qs202.1.R rfl) (qs202.1.F rfl) (qs202.1.F rfl) (qs202.1.F rfl) (qs202.1.F rfl) (qs202.1.F rfl) (qs202.1.F rfl) (qs202.1.F rfl) (qs202.1.F rfl) (qs202.1.F rfl) (qs202.1.F rfl) (qs202.1.F rfl) (qs202.1.F rfl) (qs202.1.F rfl) (qs202.1.F rfl) (qs202.1.F rfl) (fun i => qs202.1.A (f := 27) (by decide) rfl) (fun i => qs202.1.A (f := 34) (by decide) rfl) (fun i => qs202.1.A (f := 35) (by decide) rfl) (fun i => qs202.1.A (f := 40) (by decide) rfl) (qs202.1.FG g0 rfl) (qs202.1.FG g0 rfl) (qs202.1.FG g0 rfl) (qs202.1.FG g0 rfl) (qs202.1.FG g0 rfl) (fun i => qs202.1.AG (f := 10) g0 (by decide) rfl) (fun i => qs202.1.AG (f := 11) g0 (by decide) rfl) (RG.keep (c0 := 0) qs202.1 rfl rfl rfl rfl rfl rfl rfl rfl rfl rfl rfl rfl rfl rfl rfl rfl rfl rfl) qs202.2
                    refine z_iconst hC (pc := 205) (v := Int32.ofInt 0) dX14_readBody_205 (by decide) ?_
                    exact y_reti hR dX14_readBody_206 rfl (r_lit rfl) Ws202 (Nat.le_of_ble_eq_true rfl) (Nat.le_of_ble_eq_true rfl) ⟨(rKeep.tr (rKeep.tr rKeep.rf kJ rfl rfl rfl rfl rfl) qs202.1 rfl rfl rfl rfl rfl), h⟩
                obtain ⟨hT, hF⟩ := h
                refine y_icmp_ge hC (pc := 148) 188 hy143_2 (Ws143.f _ _) dX14_readBody_148 (by decide) (fun c => ?_) (fun c => ?_)
                · have h := hT c
                  exact j188 s143 y143_1 y143_2 y143_3 Ws143 hy143_1 hy143_2 hy143_3 (rKeep.tr rKeep.rf kJ rfl rfl rfl rfl rfl) h
                · have h := hF c
                  refine z_aload_n hC (pc := 151) 0 dX14_readBody_151 rfl rfl ?_
                  refine z_iload_n hC (pc := 152) 2 dX14_readBody_152 rfl rfl ?_
                  obtain ⟨p67, h⟩ := h
                  refine y_callVi hC (pc := 153) (As := [iv y143_2]) (kX14_fc l G κ s143 y143_2 Ws143 hy143_2 p67) dmX14_fc zf14 rOb_0 dX14_readBody_153 zw2993 rfl rfl (Nat.le_of_ble_eq_true rfl) (Nat.le_of_ble_eq_true rfl) (Nat.le_of_ble_eq_true rfl) (Nat.le_of_ble_eq_true rfl) (Nat.le_of_ble_eq_true rfl) (kk := fun v153 s153 hv153 Ws153 qs153 => ?_)
                  obtain ⟨es153, qs153⟩ := qs153
                  have es153 := es153.symm
                  subst es153
                  have h := h v153 hv153 qs153
                  refine z_iload_n hC (pc := 156) 3 dX14_readBody_156 rfl rfl ?_
                  obtain ⟨hT, hF⟩ := h
                  refine y_if_eq hC (pc := 157) 165 hy143_3 dX14_readBody_157 (by decide) (fun c => ?_) (fun c => ?_)
                  · have h := hT c
                    refine z_bipush hC (pc := 165) (v := Int32.ofInt 37) dX14_readBody_165 (by decide) ?_
                    obtain ⟨hT, hF⟩ := h
                    refine y_icmp_ne hC (pc := 167) 182 hv153 (r_lit rfl) dX14_readBody_167 (by decide) (fun c => ?_) (fun c => ?_)
                    · have h := hT c
                      refine y_iinc hC (pc := 182) (v := (y143_2 + 1)) (lv' := [(2, iv (y143_2 + 1)), (0, .ref (κ 0)), (1, iv y143_1), (3, iv y143_3)]) 2 dX14_readBody_182 rfl rfl (by decide) rfl ?_
                      refine z_goto hC (pc := 185) 143 dX14_readBody_185 (by decide) ?_
                      refine z_lvs [1, 2, 0, 3] rfl ?_
                      obtain ⟨r68, h⟩ := h
                      obtain ⟨hI, hm⟩ := h
                      exact ih143 s143 y143_1 (y143_2 + 1) y143_3 Ws143 hy143_1 r68 hy143_3 (rKeep.tr rKeep.rf kJ rfl rfl rfl rfl rfl) hI (by omega)
                    · have h := hF c
                      refine z_aload_n hC (pc := 170) 0 dX14_readBody_170 rfl rfl ?_
                      refine z_iload_n hC (pc := 171) 2 dX14_readBody_171 rfl rfl ?_
                      refine z_iconst hC (pc := 172) (v := Int32.ofInt 1) dX14_readBody_172 (by decide) ?_
                      refine y_iadd hC (pc := 173) (v := (y143_2 + 1)) dX14_readBody_173 rfl ?_
                      obtain ⟨r69, h⟩ := h
                      obtain ⟨p70, h⟩ := h
                      refine y_callVi hC (pc := 174) (As := [iv (y143_2 + 1)]) (kX14_fc l G κ s143 (y143_2 + 1) Ws143 r69 p70) dmX14_fc zf14 rOb_0 dX14_readBody_174 zw2993 rfl rfl (Nat.le_of_ble_eq_true rfl) (Nat.le_of_ble_eq_true rfl) (Nat.le_of_ble_eq_true rfl) (Nat.le_of_ble_eq_true rfl) (Nat.le_of_ble_eq_true rfl) (kk := fun v174 s174 hv174 Ws174 qs174 => ?_)
                      obtain ⟨es174, qs174⟩ := qs174
                      have es174 := es174.symm
                      subst es174
                      have h := h v174 hv174 qs174
                      refine z_bipush hC (pc := 177) (v := Int32.ofInt 62) dX14_readBody_177 (by decide) ?_
                      obtain ⟨hT, hF⟩ := h
                      refine y_icmp_eq hC (pc := 179) 188 hv174 (r_lit rfl) dX14_readBody_179 (by decide) (fun c => ?_) (fun c => ?_)
                      · have h := hT c
                        exact j188 s143 y143_1 y143_2 y143_3 Ws143 hy143_1 hy143_2 hy143_3 (rKeep.tr rKeep.rf kJ rfl rfl rfl rfl rfl) h
                      · have h := hF c
                        refine y_iinc hC (pc := 182) (v := (y143_2 + 1)) (lv' := [(2, iv (y143_2 + 1)), (0, .ref (κ 0)), (1, iv y143_1), (3, iv y143_3)]) 2 dX14_readBody_182 rfl rfl (by decide) rfl ?_
                        refine z_goto hC (pc := 185) 143 dX14_readBody_185 (by decide) ?_
                        refine z_lvs [1, 2, 0, 3] rfl ?_
                        obtain ⟨hI, hm⟩ := h
                        exact ih143 s143 y143_1 (y143_2 + 1) y143_3 Ws143 hy143_1 r69 hy143_3 (rKeep.tr rKeep.rf kJ rfl rfl rfl rfl rfl) hI (by omega)
                  · have h := hF c
                    refine z_bipush hC (pc := 160) (v := Int32.ofInt 62) dX14_readBody_160 (by decide) ?_
                    refine z_goto hC (pc := 162) 167 dX14_readBody_162 (by decide) ?_
                    obtain ⟨hT, hF⟩ := h
                    refine y_icmp_ne hC (pc := 167) 182 hv153 (r_lit rfl) dX14_readBody_167 (by decide) (fun c => ?_) (fun c => ?_)
                    · have h := hT c
                      refine y_iinc hC (pc := 182) (v := (y143_2 + 1)) (lv' := [(2, iv (y143_2 + 1)), (0, .ref (κ 0)), (1, iv y143_1), (3, iv y143_3)]) 2 dX14_readBody_182 rfl rfl (by decide) rfl ?_
                      refine z_goto hC (pc := 185) 143 dX14_readBody_185 (by decide) ?_
                      refine z_lvs [1, 2, 0, 3] rfl ?_
                      obtain ⟨r71, h⟩ := h
                      obtain ⟨hI, hm⟩ := h
                      exact ih143 s143 y143_1 (y143_2 + 1) y143_3 Ws143 hy143_1 r71 hy143_3 (rKeep.tr rKeep.rf kJ rfl rfl rfl rfl rfl) hI (by omega)
                    · have h := hF c
                      refine z_aload_n hC (pc := 170) 0 dX14_readBody_170 rfl rfl ?_
                      refine z_iload_n hC (pc := 171) 2 dX14_readBody_171 rfl rfl ?_
                      refine z_iconst hC (pc := 172) (v := Int32.ofInt 1) dX14_readBody_172 (by decide) ?_
                      refine y_iadd hC (pc := 173) (v := (y143_2 + 1)) dX14_readBody_173 rfl ?_
                      obtain ⟨r72, h⟩ := h
                      obtain ⟨p73, h⟩ := h
                      refine y_callVi hC (pc := 174) (As := [iv (y143_2 + 1)]) (kX14_fc l G κ s143 (y143_2 + 1) Ws143 r72 p73) dmX14_fc zf14 rOb_0 dX14_readBody_174 zw2993 rfl rfl (Nat.le_of_ble_eq_true rfl) (Nat.le_of_ble_eq_true rfl) (Nat.le_of_ble_eq_true rfl) (Nat.le_of_ble_eq_true rfl) (Nat.le_of_ble_eq_true rfl) (kk := fun v174 s174 hv174 Ws174 qs174 => ?_)
                      obtain ⟨es174, qs174⟩ := qs174
                      have es174 := es174.symm
                      subst es174
                      have h := h v174 hv174 qs174
                      refine z_bipush hC (pc := 177) (v := Int32.ofInt 62) dX14_readBody_177 (by decide) ?_
                      obtain ⟨hT, hF⟩ := h
                      refine y_icmp_eq hC (pc := 179) 188 hv174 (r_lit rfl) dX14_readBody_179 (by decide) (fun c => ?_) (fun c => ?_)
                      · have h := hT c
                        exact j188 s143 y143_1 y143_2 y143_3 Ws143 hy143_1 hy143_2 hy143_3 (rKeep.tr rKeep.rf kJ rfl rfl rfl rfl rfl) h
                      · have h := hF c
                        refine y_iinc hC (pc := 182) (v := (y143_2 + 1)) (lv' := [(2, iv (y143_2 + 1)), (0, .ref (κ 0)), (1, iv y143_1), (3, iv y143_3)]) 2 dX14_readBody_182 rfl rfl (by decide) rfl ?_
                        refine z_goto hC (pc := 185) 143 dX14_readBody_185 (by decide) ?_
                        refine z_lvs [1, 2, 0, 3] rfl ?_
                        obtain ⟨hI, hm⟩ := h
                        exact ih143 s143 y143_1 (y143_2 + 1) y143_3 Ws143 hy143_1 r72 hy143_3 (rKeep.tr rKeep.rf kJ rfl rfl rfl rfl rfl) hI (by omega)
            refine z_lvs [3, 1, 0, 2] rfl ?_
            obtain ⟨r74, h⟩ := h
            exact j143 _ s113 ((rF s113 0 17) + 2) ((rF s113 0 17) + 2) 1 Ws113 r74 r74 (r_lit rfl) (rKeep.tr rKeep.rf kJ rfl rfl rfl rfl rfl) h (Nat.le_refl _)
        obtain ⟨hT, hF⟩ := h
        refine y_icmp_eq hC (pc := 95) 113 hv90 (r_lit rfl) dX14_readBody_95 (by decide) (fun c => ?_) (fun c => ?_)
        · have h := hT c
          refine z_lvs [1] rfl ?_
          exact j113 (sF s1 0 28 0)  W11  (rKeep.tr (rKeep.tr rKeep.rf qs1.1 rfl rfl rfl rfl rfl) (rKeep.sF0 (f := 28)) rfl rfl rfl rfl rfl) h
        · have h := hF c
          refine z_aload_n hC (pc := 98) 1 dX14_readBody_98 rfl rfl ?_
          refine z_aload_n hC (pc := 99) 1 dX14_readBody_99 rfl rfl ?_
          refine y_get hC (pc := 100) zf14 rOb_0 17 (v := iv (rF s1 0 17)) dX14_readBody_100 zw2484 (rv_i (Or.inl rfl) ((F_sF_ne (by decide)).trans rfl)) (kk := ?_)
          refine z_iconst hC (pc := 103) (v := Int32.ofInt 1) dX14_readBody_103 (by decide) ?_
          refine y_iadd hC (pc := 104) (v := ((rF s1 0 17) + 1)) dX14_readBody_104 rfl ?_
          obtain ⟨p75, h⟩ := h
          refine y_callVi hC (pc := 105) (As := [iv ((rF s1 0 17) + 1)]) (kX14_fc l G κ (sF s1 0 28 0) ((rF s1 0 17) + 1) W11 r15 p75) dmX14_fc zf14 rOb_0 dX14_readBody_105 zw2993 rfl rfl (Nat.le_of_ble_eq_true rfl) (Nat.le_of_ble_eq_true rfl) (Nat.le_of_ble_eq_true rfl) (Nat.le_of_ble_eq_true rfl) (Nat.le_of_ble_eq_true rfl) (kk := fun v105 s105 hv105 Ws105 qs105 => ?_)
          obtain ⟨es105, qs105⟩ := qs105
          have es105 := es105.symm
          subst es105
          have h := h v105 hv105 qs105
          refine z_bipush hC (pc := 108) (v := Int32.ofInt 37) dX14_readBody_108 (by decide) ?_
          obtain ⟨hT, hF⟩ := h
          refine y_icmp_ne hC (pc := 110) 285 hv105 (r_lit rfl) dX14_readBody_110 (by decide) (fun c => ?_) (fun c => ?_)
          · have h := hT c
            refine z_aload_n hC (pc := 285) 1 dX14_readBody_285 rfl rfl ?_
            refine z_iconst hC (pc := 286) (v := Int32.ofInt 1) dX14_readBody_286 (by decide) ?_
            refine z_aload_n hC (pc := 287) 1 dX14_readBody_287 rfl rfl ?_
            refine y_get hC (pc := 288) zf14 rOb_0 17 (v := iv (rF s1 0 17)) dX14_readBody_288 zw2484 (rv_i (Or.inl rfl) ((F_sF_ne (by decide)).trans rfl)) (kk := ?_)
            obtain ⟨p76, h⟩ := h
            refine y_callVv hC (pc := 291) (As := [iv 1, iv (rF s1 0 17)]) (kX14_bad l G κ (sF s1 0 28 0) 1 (rF s1 0 17) W11 (r_lit rfl) (Ws1.f _ _) p76) dmX14_bad zf14 rOb_0 dX14_readBody_291 zw3000 rfl rfl (Nat.le_of_ble_eq_true rfl) (Nat.le_of_ble_eq_true rfl) (Nat.le_of_ble_eq_true rfl) (Nat.le_of_ble_eq_true rfl) (Nat.le_of_ble_eq_true rfl) (kk := fun s291 Ws291 qs291 => ?_)
            have h := h s291 Ws291 (rNMp.keep qs291.1 rfl rfl rfl rfl rfl) (PNp.keep qs291.1 rfl rfl rfl rfl rfl) (CCp.keep qs291.1 rfl rfl rfl rfl rfl rfl rfl) (qs291.1.R rfl) (qs291.1.R rfl) (qs291.1.F rfl) (qs291.1.F rfl) (qs291.1.F rfl) (qs291.1.F rfl) (qs291.1.F rfl) (qs291.1.F rfl) (qs291.1.F rfl) (qs291.1.F rfl) (qs291.1.F rfl) (qs291.1.F rfl) (qs291.1.F rfl) (qs291.1.F rfl) (qs291.1.F rfl) (qs291.1.F rfl) (qs291.1.F rfl) (fun i => qs291.1.A (f := 27) (by decide) rfl) (fun i => qs291.1.A (f := 34) (by decide) rfl) (fun i => qs291.1.A (f := 35) (by decide) rfl) (fun i => qs291.1.A (f := 40) (by decide) rfl) (qs291.1.FG g0 rfl) (qs291.1.FG g0 rfl) (qs291.1.FG g0 rfl) (qs291.1.FG g0 rfl) (qs291.1.FG g0 rfl) (fun i => qs291.1.AG (f := 10) g0 (by decide) rfl) (fun i => qs291.1.AG (f := 11) g0 (by decide) rfl) (RG.keep (c0 := 0) qs291.1 rfl rfl rfl rfl rfl rfl rfl rfl rfl rfl rfl rfl rfl rfl rfl rfl rfl rfl) qs291.2
            refine z_iconst hC (pc := 294) (v := Int32.ofInt 0) dX14_readBody_294 (by decide) ?_
            exact y_reti hR dX14_readBody_295 rfl (r_lit rfl) Ws291 (Nat.le_of_ble_eq_true rfl) (Nat.le_of_ble_eq_true rfl) ⟨(rKeep.tr (rKeep.tr (rKeep.tr rKeep.rf qs1.1 rfl rfl rfl rfl rfl) (rKeep.sF0 (f := 28)) rfl rfl rfl rfl rfl) qs291.1 rfl rfl rfl rfl rfl), h⟩
          · have h := hF c
            refine z_lvs [1] rfl ?_
            exact j113 (sF s1 0 28 0)  W11  (rKeep.tr (rKeep.tr rKeep.rf qs1.1 rfl rfl rfl rfl rfl) (rKeep.sF0 (f := 28)) rfl rfl rfl rfl rfl) h
    · have h := hF c
      refine z_aload_n hC (pc := 36) 1 dX14_readBody_36 rfl rfl ?_
      obtain ⟨p77, h⟩ := h
      refine y_callVv hC (pc := 37) (As := []) (kX14_fileString_f l G κ (sF s1 0 28 0)  W11  p77) dmX14_fileString zf14 rOb_0 dX14_readBody_37 zw3027 rfl rfl (Nat.le_of_ble_eq_true rfl) (Nat.le_of_ble_eq_true rfl) (Nat.le_of_ble_eq_true rfl) (Nat.le_of_ble_eq_true rfl) (Nat.le_of_ble_eq_true rfl) (kk := fun s37 Ws37 qs37 => ?_)
      have h := h s37 Ws37 (rNMp.keep qs37.1 rfl rfl rfl rfl rfl) (PNp.keep qs37.1 rfl rfl rfl rfl rfl) (CCp.keep qs37.1 rfl rfl rfl rfl rfl rfl rfl) (qs37.1.R rfl) (qs37.1.R rfl) (qs37.1.F rfl) (qs37.1.F rfl) (qs37.1.F rfl) (qs37.1.F rfl) (qs37.1.F rfl) (qs37.1.F rfl) (qs37.1.F rfl) (qs37.1.F rfl) (qs37.1.F rfl) (qs37.1.F rfl) (qs37.1.F rfl) (fun i => qs37.1.A (f := 27) (by decide) rfl) (fun i => qs37.1.A (f := 34) (by decide) rfl) (fun i => qs37.1.A (f := 35) (by decide) rfl) (fun i => qs37.1.A (f := 40) (by decide) rfl) (qs37.1.FG g0 rfl) (qs37.1.FG g0 rfl) (qs37.1.FG g0 rfl) (qs37.1.FG g0 rfl) (qs37.1.FG g0 rfl) (fun i => qs37.1.AG (f := 10) g0 (by decide) rfl) (fun i => qs37.1.AG (f := 11) g0 (by decide) rfl) (RG.keep (c0 := 0) qs37.1 rfl rfl rfl rfl rfl rfl rfl rfl rfl rfl rfl rfl rfl rfl rfl rfl rfl rfl) qs37.2
      refine z_aload_n hC (pc := 40) 1 dX14_readBody_40 rfl rfl ?_
      refine y_get hC (pc := 41) zf14 rOb_0 10 (v := iv (rF s37 0 10)) dX14_readBody_41 zw2478 (rv_i (Or.inl rfl) rfl) (kk := ?_)
      have h := h (Ws37.f _ _)
      obtain ⟨hT, hF⟩ := h
      refine y_if_eq hC (pc := 44) 49 (Ws37.f _ _) dX14_readBody_44 (by decide) (fun c => ?_) (fun c => ?_)
      · have h := hT c
        refine z_aload_n hC (pc := 49) 1 dX14_readBody_49 rfl rfl ?_
        refine y_get hC (pc := 50) zf14 rOb_0 22 (v := iv (rF s37 0 22)) dX14_readBody_50 zw2489 (rv_i (Or.inl rfl) rfl) (kk := ?_)
        have h := h (Ws37.f _ _)
        refine z_istore_n hC (pc := 53) (lv' := [(1, iv (rF s37 0 22)), (0, .ref (κ 0))]) dX14_readBody_53 rfl (by decide) rfl ?_
        refine z_aload_n hC (pc := 54) 1 dX14_readBody_54 rfl rfl ?_
        refine y_get hC (pc := 55) zf14 rOb_0 23 (v := iv (rF s37 0 23)) dX14_readBody_55 zw2490 (rv_i (Or.inl rfl) rfl) (kk := ?_)
        have h := h (Ws37.f _ _)
        refine z_istore_n hC (pc := 58) (lv' := [(2, iv (rF s37 0 23)), (1, iv (rF s37 0 22)), (0, .ref (κ 0))]) dX14_readBody_58 rfl (by decide) rfl ?_
        refine z_aload_n hC (pc := 59) 2 dX14_readBody_59 rfl rfl ?_
        refine z_aload_n hC (pc := 60) 2 dX14_readBody_60 rfl rfl ?_
        refine y_get hC (pc := 61) zf14 rOb_0 23 (v := iv (rF s37 0 23)) dX14_readBody_61 zw2490 (rv_i (Or.inl rfl) rfl) (kk := ?_)
        refine y_putI hC (pc := 64) zf14 rOb_0 30 (x := (rF s37 0 23)) dX14_readBody_64 zw2497 (Or.inl rfl) rfl rfl (kk := ?_)
        have W78 := Ws37.sF (q := 0) (f := 30) (x := (rF s37 0 23)) (Ws37.f _ _)
        refine z_goto hC (pc := 67) 296 dX14_readBody_67 (by decide) ?_
        refine z_iload_n hC (pc := 296) 1 dX14_readBody_296 rfl rfl ?_
        refine z_istore_n hC (pc := 297) (lv' := [(3, iv (rF s37 0 22)), (2, iv (rF s37 0 23)), (1, iv (rF s37 0 22)), (0, .ref (κ 0))]) dX14_readBody_297 rfl (by decide) rfl ?_
        have j298 : ∀ (d298 : Nat), ∀ (s298 : rS) (y298_2 : Int) (y298_3 : Int), rWF s298 → rng y298_2 → rng y298_3 → rKeep 0x6c0f3e21c00 0x4100001280 0x13c0c000000 0x3ee0000d7f 0 σ s298 → inv_X14_readBody_298 σ gg U g s298 y298_2 y298_3 → (mu_X14_readBody_298 σ gg U g s298 y298_2 y298_3) ≤ d298 → zS X G 5 (rW G κ s298) [(0, .ref (κ 0)), (2, iv y298_2), (3, iv y298_3)] 0 0 298 [] := by
          intro d298
          induction d298 with
          | zero =>
            intro s298 y298_2 y298_3 Ws298 hy298_2 hy298_3 kJ hI hmu
            exact absurd hmu (by have := h_298m  s298 y298_2 y298_3 Ws298 hy298_2 hy298_3 (kJ.R rfl) (kJ.R rfl) (kJ.F rfl) (kJ.F rfl) (kJ.F rfl) (kJ.F rfl) (kJ.F rfl) hI; omega)
          | succ d298 ih298 =>
            intro s298 y298_2 y298_3 Ws298 hy298_2 hy298_3 kJ hI hmu298
            have h := h_298  s298 y298_2 y298_3 Ws298 hy298_2 hy298_3 (kJ.R rfl) (kJ.R rfl) (kJ.F rfl) (kJ.F rfl) (kJ.F rfl) (kJ.F rfl) (kJ.F rfl) hI
            refine z_iload_n hC (pc := 298) 2 dX14_readBody_298 rfl rfl ?_
            refine z_iload_n hC (pc := 299) 1 dX14_readBody_299 rfl rfl ?_
            obtain ⟨hT, hF⟩ := h
            refine y_icmp_ge hC (pc := 300) 320 hy298_3 hy298_2 dX14_readBody_300 (by decide) (fun c => ?_) (fun c => ?_)
            · have h := hT c
              refine z_aload_n hC (pc := 320) 0 dX14_readBody_320 rfl rfl ?_
              obtain ⟨g79, h⟩ := h
              obtain ⟨p80, h⟩ := h
              refine y_callVi hC (pc := 321) (As := []) (kX14_wholeText l G κ s298 gg g79 Ws298  p80) dmX14_wholeText zf14 rOb_0 dX14_readBody_321 zw3091 rfl rfl (Nat.le_of_ble_eq_true rfl) (Nat.le_of_ble_eq_true rfl) (Nat.le_of_ble_eq_true rfl) (Nat.le_of_ble_eq_true rfl) (Nat.le_of_ble_eq_true rfl) (kk := fun v321 s321 hv321 Ws321 qs321 => ?_)
              have h := h v321 s321 hv321 Ws321 (CCp.keep qs321.1 rfl rfl rfl rfl rfl rfl rfl) (qs321.1.R rfl) (qs321.1.R rfl) (qs321.1.F rfl) (qs321.1.F rfl) (qs321.1.F rfl) (qs321.1.F rfl) (qs321.1.F rfl) (qs321.1.F rfl) (qs321.1.F rfl) (qs321.1.F rfl) (qs321.1.F rfl) (qs321.1.F rfl) (qs321.1.F rfl) (fun i => qs321.1.A (f := 27) (by decide) rfl) qs321.2
              exact y_reti hR dX14_readBody_324 rfl hv321 Ws321 (Nat.le_of_ble_eq_true rfl) (Nat.le_of_ble_eq_true rfl) ⟨(rKeep.tr (rKeep.tr rKeep.rf kJ rfl rfl rfl rfl rfl) qs321.1 rfl rfl rfl rfl rfl), h⟩
            · have h := hF c
              refine z_aload_n hC (pc := 303) 0 dX14_readBody_303 rfl rfl ?_
              refine z_aload_n hC (pc := 304) 0 dX14_readBody_304 rfl rfl ?_
              obtain ⟨g81, h⟩ := h
              refine y_get hC (pc := 305) zf14 rOb_0 15 (v := .ref (κ (rR s298 15))) dX14_readBody_305 zw2482 (rv_b rfl rfl g81) (kk := ?_)
              refine z_iload_n hC (pc := 308) 2 dX14_readBody_308 rfl rfl ?_
              obtain ⟨b82, h⟩ := h
              refine y_bald hC (pc := 309) (rAr_f g81) dX14_readBody_309 b82 (v := (rA s298 (rR s298 15) y298_3)) rfl (kk := ?_)
              have h := h (Ws298.a _ _)
              refine z_iload_n hC (pc := 310) 2 dX14_readBody_310 rfl rfl ?_
              obtain ⟨p83, h⟩ := h
              refine y_callVv hC (pc := 311) (As := [iv (rA s298 (rR s298 15) y298_3), iv y298_3]) (kX14_addByte_f l G κ s298 (rA s298 (rR s298 15) y298_3) y298_3 Ws298 (Ws298.a _ _) hy298_3 p83) dmX14_addByte zf14 rOb_0 dX14_readBody_311 zw3087 rfl rfl (Nat.le_of_ble_eq_true rfl) (Nat.le_of_ble_eq_true rfl) (Nat.le_of_ble_eq_true rfl) (Nat.le_of_ble_eq_true rfl) (Nat.le_of_ble_eq_true rfl) (kk := fun s311 Ws311 qs311 => ?_)
              have h := h s311 Ws311 (rNMp.keep qs311.1 rfl rfl rfl rfl rfl) (PNp.keep qs311.1 rfl rfl rfl rfl rfl) (qs311.1.R rfl) (qs311.1.R rfl) (qs311.1.F rfl) (qs311.1.F rfl) (qs311.1.F rfl) (qs311.1.F rfl) (qs311.1.F rfl) (qs311.1.F rfl) (qs311.1.F rfl) (qs311.1.F rfl) (qs311.1.F rfl) (qs311.1.F rfl) (qs311.1.F rfl) (qs311.1.F rfl) (qs311.1.F rfl) (qs311.1.F rfl) (qs311.1.F rfl) (fun i => qs311.1.A (f := 34) (by decide) rfl) (fun i => qs311.1.A (f := 35) (by decide) rfl) (fun i => qs311.1.A (f := 40) (by decide) rfl) (qs311.1.FG g0 rfl) (qs311.1.FG g0 rfl) (qs311.1.FG g0 rfl) (qs311.1.FG g0 rfl) (qs311.1.FG g0 rfl) (fun i => qs311.1.AG (f := 10) g0 (by decide) rfl) (fun i => qs311.1.AG (f := 11) g0 (by decide) rfl) (fz_keep qs311.1 rfl) (RG.keep (c0 := 0) qs311.1 rfl rfl rfl rfl rfl rfl rfl rfl rfl rfl rfl rfl rfl rfl rfl rfl rfl rfl) qs311.2
              refine y_iinc hC (pc := 314) (v := (y298_3 + 1)) (lv' := [(3, iv (y298_3 + 1)), (0, .ref (κ 0)), (2, iv y298_2)]) 2 dX14_readBody_314 rfl rfl (by decide) rfl ?_
              refine z_goto hC (pc := 317) 298 dX14_readBody_317 (by decide) ?_
              refine z_lvs [1, 2, 0] rfl ?_
              obtain ⟨r84, h⟩ := h
              obtain ⟨hI, hm⟩ := h
              exact ih298 s311 y298_2 (y298_3 + 1) Ws311 hy298_2 r84 (rKeep.tr (rKeep.tr rKeep.rf kJ rfl rfl rfl rfl rfl) qs311.1 rfl rfl rfl rfl rfl) hI (by omega)
        refine z_lvs [3, 1, 0] rfl ?_
        exact j298 _ (sF s37 0 30 (rF s37 0 23)) (rF s37 0 23) (rF s37 0 22) W78 (Ws37.f _ _) (Ws37.f _ _) (rKeep.tr (rKeep.tr (rKeep.tr (rKeep.tr rKeep.rf qs1.1 rfl rfl rfl rfl rfl) (rKeep.sF0 (f := 28)) rfl rfl rfl rfl rfl) qs37.1 rfl rfl rfl rfl rfl) (rKeep.sF0 (f := 30)) rfl rfl rfl rfl rfl) h (Nat.le_refl _)
      · have h := hF c
        refine z_iconst hC (pc := 47) (v := Int32.ofInt 0) dX14_readBody_47 (by decide) ?_
        exact y_reti hR dX14_readBody_48 rfl (r_lit rfl) Ws37 (Nat.le_of_ble_eq_true rfl) (Nat.le_of_ble_eq_true rfl) ⟨(rKeep.tr (rKeep.tr (rKeep.tr rKeep.rf qs1.1 rfl rfl rfl rfl rfl) (rKeep.sF0 (f := 28)) rfl rfl rfl rfl rfl) qs37.1 rfl rfl rfl rfl rfl), h⟩
  · have h := hF c
    refine z_iconst hC (pc := 11) (v := Int32.ofInt 0) dX14_readBody_11 (by decide) ?_
    exact y_reti hR dX14_readBody_12 rfl (r_lit rfl) Ws1 (Nat.le_of_ble_eq_true rfl) (Nat.le_of_ble_eq_true rfl) ⟨(rKeep.tr rKeep.rf qs1.1 rfl rfl rfl rfl rfl), h⟩
theorem kX14_readBody (l : Launch) (G : zG) (κ : Nat → Nat) (σ : rS) (gg : Nat) (U : Int) (g : Nat → Int → Int) (hwf : rWF σ) (hp : pre_X14_readBody σ gg U g) : rMi l G κ yX14_readBody cX14_readBody 5 .int 462 18045 [.ref (κ 0)] σ (fun x s => rKeep 0x6c0f3e21c00 0x4100001280 0x13c0c000000 0x3ee0000d7f 0 σ s ∧ post_X14_readBody σ gg U g x s) := wX14_readBody l G κ σ gg U g hwf (post_X14_readBody σ gg U g) (vX14_readBody σ gg U g hwf hp) (vX14_readBody_298 σ gg U g hwf hp) (vX14_readBody_298m σ gg U g hwf hp) (vX14_readBody_268 σ gg U g hwf hp) (vX14_readBody_247 σ gg U g hwf hp) (vX14_readBody_188 σ gg U g hwf hp) (vX14_readBody_143 σ gg U g hwf hp) (vX14_readBody_143m σ gg U g hwf hp) (vX14_readBody_113 σ gg U g hwf hp)
