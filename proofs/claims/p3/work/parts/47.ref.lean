theorem zw2486 : Cond.fieldLink "TemplateHouseModel" 394 "TemplateHouseModel" "close" "I" ∈ zT := zsub11 86 (by decide +kernel) (by decide +kernel)
theorem zw3111 : Cond.methodLink "TemplateHouseModel" 619 ⟨"TemplateHouseModel", "note", "(III)V"⟩ ∈ zT := zsub13 231 (by decide +kernel) (by decide +kernel)
theorem zw3118 : Cond.code ⟨"TemplateHouseModel", "readBytes", "(I)V"⟩ prog_15_method_49_code 3 (Option.none : Option Jvm.ClassFile.FieldType) ∈ zT := zsub13 238 rfl rfl
theorem zw3117 : Cond.instanceMethod ⟨"TemplateHouseModel", "readBytes", "(I)V"⟩ ∈ zT := zsub13 237 (by decide +kernel) (by decide +kernel)
theorem zwp253 : Cond.selects "TemplateHouseModel" ⟨"TemplateHouseModel", "readBytes", "(I)V"⟩ ⟨"TemplateHouseModel", "readBytes", "(I)V"⟩ ∈ zT := zin 253 (by decide +kernel) (by decide +kernel)
abbrev cX14_readBytes : ByteArray := prog_15_method_49_code
abbrev yX14_readBytes : MethodName := ⟨"TemplateHouseModel", "readBytes", "(I)V"⟩
theorem dmX14_readBytes : zDv yX14_readBytes cX14_readBytes 3 none 1 := ⟨⟨⟨by decide +kernel, by decide +kernel, by decide +kernel⟩, zw3118, zw14⟩, zw3117, zwp253⟩
theorem dX14_readBytes_0 : decode cX14_readBytes 0 = .ok (.aload_n 0, 1) := by decide +kernel
theorem dX14_readBytes_1 : decode cX14_readBytes 1 = .ok (.getfield 548, 3) := by decide +kernel
theorem dX14_readBytes_4 : decode cX14_readBytes 4 = .ok (.iconst 1, 1) := by decide +kernel
theorem dX14_readBytes_5 : decode cX14_readBytes 5 = .ok (.iadd, 1) := by decide +kernel
theorem dX14_readBytes_6 : decode cX14_readBytes 6 = .ok (.aload_n 0, 1) := by decide +kernel
theorem dX14_readBytes_7 : decode cX14_readBytes 7 = .ok (.getfield 533, 3) := by decide +kernel
theorem dX14_readBytes_10 : decode cX14_readBytes 10 = .ok (.if_icmp .ge 160, 3) := by decide +kernel
theorem dX14_readBytes_170 : decode cX14_readBytes 170 = .ok (.aload_n 0, 1) := by decide +kernel
theorem dX14_readBytes_171 : decode cX14_readBytes 171 = .ok (.invokevirtual 569, 3) := by decide +kernel
theorem dX14_readBytes_174 : decode cX14_readBytes 174 = .ok (.bipush 92, 2) := by decide +kernel
theorem dX14_readBytes_176 : decode cX14_readBytes 176 = .ok (.if_icmp .ne 96, 3) := by decide +kernel
theorem dX14_readBytes_272 : decode cX14_readBytes 272 = .ok (.aload_n 0, 1) := by decide +kernel
theorem dX14_readBytes_273 : decode cX14_readBytes 273 = .ok (.invokevirtual 569, 3) := by decide +kernel
theorem dX14_readBytes_276 : decode cX14_readBytes 276 = .ok (.aload_n 0, 1) := by decide +kernel
theorem dX14_readBytes_277 : decode cX14_readBytes 277 = .ok (.getfield 394, 3) := by decide +kernel
theorem dX14_readBytes_280 : decode cX14_readBytes 280 = .ok (.if_icmp .ne 16, 3) := by decide +kernel
theorem dX14_readBytes_296 : decode cX14_readBytes 296 = .ok (.aload_n 0, 1) := by decide +kernel
theorem dX14_readBytes_297 : decode cX14_readBytes 297 = .ok (.iconst 1, 1) := by decide +kernel
theorem dX14_readBytes_298 : decode cX14_readBytes 298 = .ok (.aload_n 0, 1) := by decide +kernel
theorem dX14_readBytes_299 : decode cX14_readBytes 299 = .ok (.invokevirtual 572, 3) := by decide +kernel
theorem dX14_readBytes_302 : decode cX14_readBytes 302 = .ok (.invokevirtual 280, 3) := by decide +kernel
theorem dX14_readBytes_305 : decode cX14_readBytes 305 = .ok (.return_, 1) := by decide +kernel
theorem dX14_readBytes_283 : decode cX14_readBytes 283 = .ok (.aload_n 0, 1) := by decide +kernel
theorem dX14_readBytes_284 : decode cX14_readBytes 284 = .ok (.dup, 1) := by decide +kernel
theorem dX14_readBytes_285 : decode cX14_readBytes 285 = .ok (.getfield 548, 3) := by decide +kernel
theorem dX14_readBytes_288 : decode cX14_readBytes 288 = .ok (.iconst 1, 1) := by decide +kernel
theorem dX14_readBytes_289 : decode cX14_readBytes 289 = .ok (.iadd, 1) := by decide +kernel
theorem dX14_readBytes_290 : decode cX14_readBytes 290 = .ok (.putfield 548, 3) := by decide +kernel
theorem dX14_readBytes_293 : decode cX14_readBytes 293 = .ok (.goto 12, 3) := by decide +kernel
theorem dX14_readBytes_179 : decode cX14_readBytes 179 = .ok (.aload_n 0, 1) := by decide +kernel
theorem dX14_readBytes_180 : decode cX14_readBytes 180 = .ok (.getfield 248, 3) := by decide +kernel
theorem dX14_readBytes_183 : decode cX14_readBytes 183 = .ok (.ifCond .ne 89, 3) := by decide +kernel
theorem dX14_readBytes_186 : decode cX14_readBytes 186 = .ok (.aload_n 0, 1) := by decide +kernel
theorem dX14_readBytes_187 : decode cX14_readBytes 187 = .ok (.dup, 1) := by decide +kernel
theorem dX14_readBytes_188 : decode cX14_readBytes 188 = .ok (.getfield 548, 3) := by decide +kernel
theorem dX14_readBytes_191 : decode cX14_readBytes 191 = .ok (.iconst 1, 1) := by decide +kernel
theorem dX14_readBytes_192 : decode cX14_readBytes 192 = .ok (.iadd, 1) := by decide +kernel
theorem dX14_readBytes_193 : decode cX14_readBytes 193 = .ok (.putfield 548, 3) := by decide +kernel
theorem dX14_readBytes_196 : decode cX14_readBytes 196 = .ok (.aload_n 0, 1) := by decide +kernel
theorem dX14_readBytes_197 : decode cX14_readBytes 197 = .ok (.invokevirtual 569, 3) := by decide +kernel
theorem dX14_readBytes_200 : decode cX14_readBytes 200 = .ok (.istore_n 2, 1) := by decide +kernel
theorem dX14_readBytes_201 : decode cX14_readBytes 201 = .ok (.iload_n 2, 1) := by decide +kernel
theorem dX14_readBytes_202 : decode cX14_readBytes 202 = .ok (.bipush 110, 2) := by decide +kernel
theorem dX14_readBytes_204 : decode cX14_readBytes 204 = .ok (.if_icmp .eq 25, 3) := by decide +kernel
theorem dX14_readBytes_229 : decode cX14_readBytes 229 = .ok (.aload_n 0, 1) := by decide +kernel
theorem dX14_readBytes_230 : decode cX14_readBytes 230 = .ok (.iconst 3, 1) := by decide +kernel
theorem dX14_readBytes_231 : decode cX14_readBytes 231 = .ok (.iload_n 2, 1) := by decide +kernel
theorem dX14_readBytes_232 : decode cX14_readBytes 232 = .ok (.bipush 110, 2) := by decide +kernel
theorem dX14_readBytes_234 : decode cX14_readBytes 234 = .ok (.if_icmp .ne 8, 3) := by decide +kernel
theorem dX14_readBytes_242 : decode cX14_readBytes 242 = .ok (.iload_n 2, 1) := by decide +kernel
theorem dX14_readBytes_243 : decode cX14_readBytes 243 = .ok (.bipush 116, 2) := by decide +kernel
theorem dX14_readBytes_245 : decode cX14_readBytes 245 = .ok (.if_icmp .ne 8, 3) := by decide +kernel
theorem dX14_readBytes_253 : decode cX14_readBytes 253 = .ok (.bipush 32, 2) := by decide +kernel
theorem dX14_readBytes_255 : decode cX14_readBytes 255 = .ok (.iload_n 1, 1) := by decide +kernel
theorem dX14_readBytes_256 : decode cX14_readBytes 256 = .ok (.invokevirtual 619, 3) := by decide +kernel
theorem dX14_readBytes_259 : decode cX14_readBytes 259 = .ok (.aload_n 0, 1) := by decide +kernel
theorem dX14_readBytes_260 : decode cX14_readBytes 260 = .ok (.dup, 1) := by decide +kernel
theorem dX14_readBytes_261 : decode cX14_readBytes 261 = .ok (.getfield 548, 3) := by decide +kernel
theorem dX14_readBytes_264 : decode cX14_readBytes 264 = .ok (.iconst 1, 1) := by decide +kernel
theorem dX14_readBytes_265 : decode cX14_readBytes 265 = .ok (.iadd, 1) := by decide +kernel
theorem dX14_readBytes_266 : decode cX14_readBytes 266 = .ok (.putfield 548, 3) := by decide +kernel
theorem dX14_readBytes_269 : decode cX14_readBytes 269 = .ok (.goto (-99), 3) := by decide +kernel
theorem dX14_readBytes_248 : decode cX14_readBytes 248 = .ok (.bipush 9, 2) := by decide +kernel
theorem dX14_readBytes_250 : decode cX14_readBytes 250 = .ok (.goto 5, 3) := by decide +kernel
theorem dX14_readBytes_237 : decode cX14_readBytes 237 = .ok (.bipush 10, 2) := by decide +kernel
theorem dX14_readBytes_239 : decode cX14_readBytes 239 = .ok (.goto 16, 3) := by decide +kernel
theorem dX14_readBytes_207 : decode cX14_readBytes 207 = .ok (.iload_n 2, 1) := by decide +kernel
theorem dX14_readBytes_208 : decode cX14_readBytes 208 = .ok (.bipush 116, 2) := by decide +kernel
theorem dX14_readBytes_210 : decode cX14_readBytes 210 = .ok (.if_icmp .eq 19, 3) := by decide +kernel
theorem dX14_readBytes_213 : decode cX14_readBytes 213 = .ok (.iload_n 2, 1) := by decide +kernel
theorem dX14_readBytes_214 : decode cX14_readBytes 214 = .ok (.bipush 32, 2) := by decide +kernel
theorem dX14_readBytes_216 : decode cX14_readBytes 216 = .ok (.if_icmp .eq 13, 3) := by decide +kernel
theorem dX14_readBytes_219 : decode cX14_readBytes 219 = .ok (.aload_n 0, 1) := by decide +kernel
theorem dX14_readBytes_220 : decode cX14_readBytes 220 = .ok (.iconst 1, 1) := by decide +kernel
theorem dX14_readBytes_221 : decode cX14_readBytes 221 = .ok (.aload_n 0, 1) := by decide +kernel
theorem dX14_readBytes_222 : decode cX14_readBytes 222 = .ok (.invokevirtual 572, 3) := by decide +kernel
theorem dX14_readBytes_225 : decode cX14_readBytes 225 = .ok (.invokevirtual 280, 3) := by decide +kernel
theorem dX14_readBytes_228 : decode cX14_readBytes 228 = .ok (.return_, 1) := by decide +kernel
theorem dX14_readBytes_13 : decode cX14_readBytes 13 = .ok (.aload_n 0, 1) := by decide +kernel
theorem dX14_readBytes_14 : decode cX14_readBytes 14 = .ok (.getfield 36, 3) := by decide +kernel
theorem dX14_readBytes_17 : decode cX14_readBytes 17 = .ok (.aload_n 0, 1) := by decide +kernel
theorem dX14_readBytes_18 : decode cX14_readBytes 18 = .ok (.getfield 548, 3) := by decide +kernel
theorem dX14_readBytes_21 : decode cX14_readBytes 21 = .ok (.iconst 1, 1) := by decide +kernel
theorem dX14_readBytes_22 : decode cX14_readBytes 22 = .ok (.iadd, 1) := by decide +kernel
theorem dX14_readBytes_23 : decode cX14_readBytes 23 = .ok (.baload, 1) := by decide +kernel
theorem dX14_readBytes_24 : decode cX14_readBytes 24 = .ok (.bipush 92, 2) := by decide +kernel
theorem dX14_readBytes_26 : decode cX14_readBytes 26 = .ok (.if_icmp .ne 144, 3) := by decide +kernel
theorem dX14_readBytes_29 : decode cX14_readBytes 29 = .ok (.aload_n 0, 1) := by decide +kernel
theorem dX14_readBytes_30 : decode cX14_readBytes 30 = .ok (.dup, 1) := by decide +kernel
theorem dX14_readBytes_31 : decode cX14_readBytes 31 = .ok (.getfield 548, 3) := by decide +kernel
theorem dX14_readBytes_34 : decode cX14_readBytes 34 = .ok (.iconst 2, 1) := by decide +kernel
theorem dX14_readBytes_35 : decode cX14_readBytes 35 = .ok (.iadd, 1) := by decide +kernel
theorem dX14_readBytes_36 : decode cX14_readBytes 36 = .ok (.putfield 548, 3) := by decide +kernel
theorem dX14_readBytes_39 : decode cX14_readBytes 39 = .ok (.aload_n 0, 1) := by decide +kernel
theorem dX14_readBytes_40 : decode cX14_readBytes 40 = .ok (.invokevirtual 569, 3) := by decide +kernel
theorem dX14_readBytes_43 : decode cX14_readBytes 43 = .ok (.aload_n 0, 1) := by decide +kernel
theorem dX14_readBytes_44 : decode cX14_readBytes 44 = .ok (.getfield 394, 3) := by decide +kernel
theorem dX14_readBytes_47 : decode cX14_readBytes 47 = .ok (.if_icmp .eq 13, 3) := by decide +kernel
theorem dX14_readBytes_60 : decode cX14_readBytes 60 = .ok (.aload_n 0, 1) := by decide +kernel
theorem dX14_readBytes_61 : decode cX14_readBytes 61 = .ok (.dup, 1) := by decide +kernel
theorem dX14_readBytes_62 : decode cX14_readBytes 62 = .ok (.getfield 548, 3) := by decide +kernel
theorem dX14_readBytes_65 : decode cX14_readBytes 65 = .ok (.iconst 1, 1) := by decide +kernel
theorem dX14_readBytes_66 : decode cX14_readBytes 66 = .ok (.iadd, 1) := by decide +kernel
theorem dX14_readBytes_67 : decode cX14_readBytes 67 = .ok (.putfield 548, 3) := by decide +kernel
theorem dX14_readBytes_70 : decode cX14_readBytes 70 = .ok (.aload_n 0, 1) := by decide +kernel
theorem dX14_readBytes_71 : decode cX14_readBytes 71 = .ok (.invokevirtual 569, 3) := by decide +kernel
theorem dX14_readBytes_74 : decode cX14_readBytes 74 = .ok (.bipush 32, 2) := by decide +kernel
theorem dX14_readBytes_76 : decode cX14_readBytes 76 = .ok (.if_icmp .eq 12, 3) := by decide +kernel
theorem dX14_readBytes_88 : decode cX14_readBytes 88 = .ok (.aload_n 0, 1) := by decide +kernel
theorem dX14_readBytes_89 : decode cX14_readBytes 89 = .ok (.dup, 1) := by decide +kernel
theorem dX14_readBytes_90 : decode cX14_readBytes 90 = .ok (.getfield 548, 3) := by decide +kernel
theorem dX14_readBytes_93 : decode cX14_readBytes 93 = .ok (.iconst 1, 1) := by decide +kernel
theorem dX14_readBytes_94 : decode cX14_readBytes 94 = .ok (.iadd, 1) := by decide +kernel
theorem dX14_readBytes_95 : decode cX14_readBytes 95 = .ok (.putfield 548, 3) := by decide +kernel
theorem dX14_readBytes_98 : decode cX14_readBytes 98 = .ok (.goto (-28), 3) := by decide +kernel
theorem dX14_readBytes_79 : decode cX14_readBytes 79 = .ok (.aload_n 0, 1) := by decide +kernel
theorem dX14_readBytes_80 : decode cX14_readBytes 80 = .ok (.invokevirtual 569, 3) := by decide +kernel
theorem dX14_readBytes_83 : decode cX14_readBytes 83 = .ok (.bipush 9, 2) := by decide +kernel
theorem dX14_readBytes_85 : decode cX14_readBytes 85 = .ok (.if_icmp .ne 16, 3) := by decide +kernel
theorem dX14_readBytes_101 : decode cX14_readBytes 101 = .ok (.aload_n 0, 1) := by decide +kernel
theorem dX14_readBytes_102 : decode cX14_readBytes 102 = .ok (.invokevirtual 569, 3) := by decide +kernel
theorem dX14_readBytes_105 : decode cX14_readBytes 105 = .ok (.bipush 10, 2) := by decide +kernel
theorem dX14_readBytes_107 : decode cX14_readBytes 107 = .ok (.if_icmp .eq 13, 3) := by decide +kernel
theorem dX14_readBytes_120 : decode cX14_readBytes 120 = .ok (.aload_n 0, 1) := by decide +kernel
theorem dX14_readBytes_121 : decode cX14_readBytes 121 = .ok (.dup, 1) := by decide +kernel
theorem dX14_readBytes_122 : decode cX14_readBytes 122 = .ok (.getfield 548, 3) := by decide +kernel
theorem dX14_readBytes_125 : decode cX14_readBytes 125 = .ok (.iconst 1, 1) := by decide +kernel
theorem dX14_readBytes_126 : decode cX14_readBytes 126 = .ok (.iadd, 1) := by decide +kernel
theorem dX14_readBytes_127 : decode cX14_readBytes 127 = .ok (.putfield 548, 3) := by decide +kernel
theorem dX14_readBytes_130 : decode cX14_readBytes 130 = .ok (.aload_n 0, 1) := by decide +kernel
theorem dX14_readBytes_131 : decode cX14_readBytes 131 = .ok (.invokevirtual 569, 3) := by decide +kernel
theorem dX14_readBytes_134 : decode cX14_readBytes 134 = .ok (.bipush 32, 2) := by decide +kernel
theorem dX14_readBytes_136 : decode cX14_readBytes 136 = .ok (.if_icmp .eq 12, 3) := by decide +kernel
theorem dX14_readBytes_148 : decode cX14_readBytes 148 = .ok (.aload_n 0, 1) := by decide +kernel
theorem dX14_readBytes_149 : decode cX14_readBytes 149 = .ok (.dup, 1) := by decide +kernel
theorem dX14_readBytes_150 : decode cX14_readBytes 150 = .ok (.getfield 548, 3) := by decide +kernel
theorem dX14_readBytes_153 : decode cX14_readBytes 153 = .ok (.iconst 1, 1) := by decide +kernel
theorem dX14_readBytes_154 : decode cX14_readBytes 154 = .ok (.iadd, 1) := by decide +kernel
theorem dX14_readBytes_155 : decode cX14_readBytes 155 = .ok (.putfield 548, 3) := by decide +kernel
theorem dX14_readBytes_158 : decode cX14_readBytes 158 = .ok (.goto (-28), 3) := by decide +kernel
theorem dX14_readBytes_139 : decode cX14_readBytes 139 = .ok (.aload_n 0, 1) := by decide +kernel
theorem dX14_readBytes_140 : decode cX14_readBytes 140 = .ok (.invokevirtual 569, 3) := by decide +kernel
theorem dX14_readBytes_143 : decode cX14_readBytes 143 = .ok (.bipush 9, 2) := by decide +kernel
theorem dX14_readBytes_145 : decode cX14_readBytes 145 = .ok (.if_icmp .ne 16, 3) := by decide +kernel
theorem dX14_readBytes_161 : decode cX14_readBytes 161 = .ok (.aload_n 0, 1) := by decide +kernel
theorem dX14_readBytes_162 : decode cX14_readBytes 162 = .ok (.bipush 20, 2) := by decide +kernel
theorem dX14_readBytes_164 : decode cX14_readBytes 164 = .ok (.iconst 0, 1) := by decide +kernel
theorem dX14_readBytes_165 : decode cX14_readBytes 165 = .ok (.iload_n 1, 1) := by decide +kernel
theorem dX14_readBytes_166 : decode cX14_readBytes 166 = .ok (.invokevirtual 619, 3) := by decide +kernel
theorem dX14_readBytes_169 : decode cX14_readBytes 169 = .ok (.return_, 1) := by decide +kernel
theorem dX14_readBytes_110 : decode cX14_readBytes 110 = .ok (.aload_n 0, 1) := by decide +kernel
theorem dX14_readBytes_111 : decode cX14_readBytes 111 = .ok (.iconst 1, 1) := by decide +kernel
theorem dX14_readBytes_112 : decode cX14_readBytes 112 = .ok (.aload_n 0, 1) := by decide +kernel
theorem dX14_readBytes_113 : decode cX14_readBytes 113 = .ok (.invokevirtual 572, 3) := by decide +kernel
theorem dX14_readBytes_116 : decode cX14_readBytes 116 = .ok (.invokevirtual 280, 3) := by decide +kernel
theorem dX14_readBytes_119 : decode cX14_readBytes 119 = .ok (.return_, 1) := by decide +kernel
theorem dX14_readBytes_50 : decode cX14_readBytes 50 = .ok (.aload_n 0, 1) := by decide +kernel
theorem dX14_readBytes_51 : decode cX14_readBytes 51 = .ok (.iconst 1, 1) := by decide +kernel
theorem dX14_readBytes_52 : decode cX14_readBytes 52 = .ok (.aload_n 0, 1) := by decide +kernel
theorem dX14_readBytes_53 : decode cX14_readBytes 53 = .ok (.invokevirtual 572, 3) := by decide +kernel
theorem dX14_readBytes_56 : decode cX14_readBytes 56 = .ok (.invokevirtual 280, 3) := by decide +kernel
theorem dX14_readBytes_59 : decode cX14_readBytes 59 = .ok (.return_, 1) := by decide +kernel
def pre_X14_readBytes (σ : rS) (x1 : Int) : Prop := 0 ≤ (rF σ 0 29) ∧ (rF σ 0 29) ≤ (rF σ 0 28) ∧ (rF σ 0 28) ≤ 4001 ∧ TPRp σ ∧ WNp σ ∧ (rF σ 0 38) + ((rF σ 0 28) + 3 - (rF σ 0 29)) ≤ 8990 ∧ 0 ≤ (rF σ 0 38) ∧ (rF σ 0 10) = 0 ∧ 0 ≤ x1 ∧ x1 ≤ 4000 ∧ 0 ≤ (rF σ 0 19)
def post_X14_readBytes (σ : rS) (x1 : Int) (σ' : rS) : Prop := (rF σ 0 29) ≤ (rF σ' 0 29) ∧ (rF σ' 0 29) ≤ (rF σ 0 28) ∧ (rF σ 0 38) ≤ (rF σ' 0 38) ∧ (rF σ' 0 38) + (rF σ 0 29) ≤ (rF σ 0 38) + (rF σ' 0 29) ∧ WNp σ'
def inv_X14_readBytes_70 (σ : rS) (x1 : Int)  (s : rS)  : Prop := (rF σ 0 29) ≤ (rF s 0 29) ∧ (rF s 0 29) ≤ (rF σ 0 28) ∧ (rF s 0 10) = 0 ∧ (rF s 0 38) = (rF σ 0 38) ∧ WNp s
def mu_X14_readBytes_70 (σ : rS) (x1 : Int) (s : rS)  : Nat := (1 + ((rF σ 0 28) - (rF s 0 29)).toNat)
def inv_X14_readBytes_130 (σ : rS) (x1 : Int)  (s : rS)  : Prop := (rF σ 0 29) ≤ (rF s 0 29) ∧ (rF s 0 29) ≤ (rF σ 0 28) ∧ (rF s 0 10) = 0 ∧ (rF s 0 38) = (rF σ 0 38) ∧ (rF σ 0 29) + 1 ≤ (rF s 0 29) ∧ WNp s
def mu_X14_readBytes_130 (σ : rS) (x1 : Int) (s : rS)  : Nat := (1 + ((rF σ 0 28) - (rF s 0 29)).toNat)
def inv_X14_readBytes_170 (σ : rS) (x1 : Int)  (s : rS)  : Prop := (rF σ 0 29) ≤ (rF s 0 29) ∧ (rF s 0 29) ≤ (rF σ 0 28) ∧ (rF s 0 10) = 0 ∧ (rF σ 0 38) ≤ (rF s 0 38) ∧ (rF s 0 38) + (rF σ 0 29) ≤ (rF σ 0 38) + (rF s 0 29) ∧ WNp s
def mu_X14_readBytes_170 (σ : rS) (x1 : Int) (s : rS)  : Nat := (1 + ((rF σ 0 28) - (rF s 0 29)).toNat)
def VC_X14_readBytes (σ : rS) (x1 : Int) (Q : rS → Prop) : Prop := (rng (rF σ 0 29) → (rng (rF σ 0 28) → rng ((rF σ 0 29) + 1) ∧ (((rF σ 0 28) ≤ ((rF σ 0 29) + 1) → (inv_X14_readBytes_170 σ x1 σ)) ∧ (¬ (rF σ 0 28) ≤ ((rF σ 0 29) + 1) → (0 ≤ ((rF σ 0 29) + 1) ∧ ((rF σ 0 29) + 1) < 4001) ∧ (rng (rA σ 1026 ((rF σ 0 29) + 1)) → ((¬ (rA σ 1026 ((rF σ 0 29) + 1)) = 92 → (inv_X14_readBytes_170 σ x1 σ)) ∧ ((rA σ 1026 ((rF σ 0 29) + 1)) = 92 → rng ((rF σ 0 29) + 2) ∧ pre_X14_here (sF σ 0 29 ((rF σ 0 29) + 2)) ∧ (∀ (x98 : Int), rng x98 → post_X14_here (sF σ 0 29 ((rF σ 0 29) + 2)) x98 → (rng (rF σ 0 19) → ((x98 = (rF σ 0 19) → rng (((rF σ 0 29) + 2) + 1) ∧ (inv_X14_readBytes_70 σ x1 (sF (sF σ 0 29 ((rF σ 0 29) + 2)) 0 29 (((rF σ 0 29) + 2) + 1)))) ∧ (¬ x98 = (rF σ 0 19) → pre_X14_place (sF σ 0 29 ((rF σ 0 29) + 2)) ∧ (∀ (x139 : Int), rng x139 → post_X14_place (sF σ 0 29 ((rF σ 0 29) + 2)) x139 → pre_X14_bad (sF σ 0 29 ((rF σ 0 29) + 2)) 1 x139 ∧ (∀ (s141 : rS), rWF s141 → (TPRp (sF σ 0 29 ((rF σ 0 29) + 2)) → TPRp s141) → (WNp (sF σ 0 29 ((rF σ 0 29) + 2)) → WNp s141) → rF s141 0 19 = rF (sF σ 0 29 ((rF σ 0 29) + 2)) 0 19 → rF s141 0 28 = rF (sF σ 0 29 ((rF σ 0 29) + 2)) 0 28 → rF s141 0 29 = rF (sF σ 0 29 ((rF σ 0 29) + 2)) 0 29 → rF s141 0 38 = rF (sF σ 0 29 ((rF σ 0 29) + 2)) 0 38 → (∀ i, rA s141 1026 i = rA (sF σ 0 29 ((rF σ 0 29) + 2)) 1026 i) → post_X14_bad (sF σ 0 29 ((rF σ 0 29) + 2)) 1 x139 s141 → Q s141)))))))))))))
def VC_X14_readBytes_170 (σ : rS) (x1 : Int) (Q : rS → Prop) : Prop := ∀ (s10 : rS), rWF s10 → (TPRp σ → TPRp s10) → rF s10 0 19 = rF σ 0 19 → rF s10 0 28 = rF σ 0 28 → (∀ i, rA s10 1026 i = rA σ 1026 i) → inv_X14_readBytes_170 σ x1 s10 → (pre_X14_here s10 ∧ (∀ (x13 : Int), rng x13 → post_X14_here s10 x13 → ((¬ x13 = 92 → pre_X14_here s10 ∧ (∀ (x16 : Int), rng x16 → post_X14_here s10 x16 → (rng (rF s10 0 19) → ((¬ x16 = (rF s10 0 19) → pre_X14_place s10 ∧ (∀ (x19 : Int), rng x19 → post_X14_place s10 x19 → pre_X14_bad s10 1 x19 ∧ (∀ (s21 : rS), rWF s21 → (TPRp s10 → TPRp s21) → (WNp s10 → WNp s21) → rF s21 0 19 = rF s10 0 19 → rF s21 0 28 = rF s10 0 28 → rF s21 0 29 = rF s10 0 29 → rF s21 0 38 = rF s10 0 38 → (∀ i, rA s21 1026 i = rA s10 1026 i) → post_X14_bad s10 1 x19 s21 → Q s21))) ∧ (x16 = (rF s10 0 19) → (rng (rF s10 0 29) → rng ((rF s10 0 29) + 1) ∧ Q (sF s10 0 29 ((rF s10 0 29) + 1)))))))) ∧ (x13 = 92 → (rng (rF s10 0 10) → ((¬ (rF s10 0 10) = 0 → pre_X14_here s10 ∧ (∀ (x27 : Int), rng x27 → post_X14_here s10 x27 → (rng (rF s10 0 19) → ((¬ x27 = (rF s10 0 19) → pre_X14_place s10 ∧ (∀ (x30 : Int), rng x30 → post_X14_place s10 x30 → pre_X14_bad s10 1 x30 ∧ (∀ (s32 : rS), rWF s32 → (TPRp s10 → TPRp s32) → (WNp s10 → WNp s32) → rF s32 0 19 = rF s10 0 19 → rF s32 0 28 = rF s10 0 28 → rF s32 0 29 = rF s10 0 29 → rF s32 0 38 = rF s10 0 38 → (∀ i, rA s32 1026 i = rA s10 1026 i) → post_X14_bad s10 1 x30 s32 → Q s32))) ∧ (x27 = (rF s10 0 19) → (rng (rF s10 0 29) → rng ((rF s10 0 29) + 1) ∧ Q (sF s10 0 29 ((rF s10 0 29) + 1)))))))) ∧ ((rF s10 0 10) = 0 → (rng (rF s10 0 29) → rng ((rF s10 0 29) + 1) ∧ pre_X14_here (sF s10 0 29 ((rF s10 0 29) + 1)) ∧ (∀ (x40 : Int), rng x40 → post_X14_here (sF s10 0 29 ((rF s10 0 29) + 1)) x40 → ((x40 = 110 → ((¬ x40 = 110 → ((¬ x40 = 116 → pre_X14_note (sF s10 0 29 ((rF s10 0 29) + 1)) 3 32 x1 ∧ (∀ (s42 : rS), rWF s42 → (TPRp (sF s10 0 29 ((rF s10 0 29) + 1)) → TPRp s42) → rF s42 0 10 = rF (sF s10 0 29 ((rF s10 0 29) + 1)) 0 10 → rF s42 0 19 = rF (sF s10 0 29 ((rF s10 0 29) + 1)) 0 19 → rF s42 0 28 = rF (sF s10 0 29 ((rF s10 0 29) + 1)) 0 28 → rF s42 0 29 = rF (sF s10 0 29 ((rF s10 0 29) + 1)) 0 29 → (∀ i, rA s42 1026 i = rA (sF s10 0 29 ((rF s10 0 29) + 1)) 1026 i) → post_X14_note (sF s10 0 29 ((rF s10 0 29) + 1)) 3 32 x1 s42 → rng (((rF s10 0 29) + 1) + 1) ∧ (inv_X14_readBytes_170 σ x1 (sF s42 0 29 (((rF s10 0 29) + 1) + 1)) ∧ (mu_X14_readBytes_170 σ x1 (sF s42 0 29 (((rF s10 0 29) + 1) + 1)) ) < (mu_X14_readBytes_170 σ x1 s10 )))) ∧ (x40 = 116 → pre_X14_note (sF s10 0 29 ((rF s10 0 29) + 1)) 3 9 x1 ∧ (∀ (s47 : rS), rWF s47 → (TPRp (sF s10 0 29 ((rF s10 0 29) + 1)) → TPRp s47) → rF s47 0 10 = rF (sF s10 0 29 ((rF s10 0 29) + 1)) 0 10 → rF s47 0 19 = rF (sF s10 0 29 ((rF s10 0 29) + 1)) 0 19 → rF s47 0 28 = rF (sF s10 0 29 ((rF s10 0 29) + 1)) 0 28 → rF s47 0 29 = rF (sF s10 0 29 ((rF s10 0 29) + 1)) 0 29 → (∀ i, rA s47 1026 i = rA (sF s10 0 29 ((rF s10 0 29) + 1)) 1026 i) → post_X14_note (sF s10 0 29 ((rF s10 0 29) + 1)) 3 9 x1 s47 → rng (((rF s10 0 29) + 1) + 1) ∧ (inv_X14_readBytes_170 σ x1 (sF s47 0 29 (((rF s10 0 29) + 1) + 1)) ∧ (mu_X14_readBytes_170 σ x1 (sF s47 0 29 (((rF s10 0 29) + 1) + 1)) ) < (mu_X14_readBytes_170 σ x1 s10 )))))) ∧ (x40 = 110 → pre_X14_note (sF s10 0 29 ((rF s10 0 29) + 1)) 3 10 x1 ∧ (∀ (s52 : rS), rWF s52 → (TPRp (sF s10 0 29 ((rF s10 0 29) + 1)) → TPRp s52) → rF s52 0 10 = rF (sF s10 0 29 ((rF s10 0 29) + 1)) 0 10 → rF s52 0 19 = rF (sF s10 0 29 ((rF s10 0 29) + 1)) 0 19 → rF s52 0 28 = rF (sF s10 0 29 ((rF s10 0 29) + 1)) 0 28 → rF s52 0 29 = rF (sF s10 0 29 ((rF s10 0 29) + 1)) 0 29 → (∀ i, rA s52 1026 i = rA (sF s10 0 29 ((rF s10 0 29) + 1)) 1026 i) → post_X14_note (sF s10 0 29 ((rF s10 0 29) + 1)) 3 10 x1 s52 → rng (((rF s10 0 29) + 1) + 1) ∧ (inv_X14_readBytes_170 σ x1 (sF s52 0 29 (((rF s10 0 29) + 1) + 1)) ∧ (mu_X14_readBytes_170 σ x1 (sF s52 0 29 (((rF s10 0 29) + 1) + 1)) ) < (mu_X14_readBytes_170 σ x1 s10 )))))) ∧ (¬ x40 = 110 → ((x40 = 116 → ((¬ x40 = 110 → ((¬ x40 = 116 → pre_X14_note (sF s10 0 29 ((rF s10 0 29) + 1)) 3 32 x1 ∧ (∀ (s57 : rS), rWF s57 → (TPRp (sF s10 0 29 ((rF s10 0 29) + 1)) → TPRp s57) → rF s57 0 10 = rF (sF s10 0 29 ((rF s10 0 29) + 1)) 0 10 → rF s57 0 19 = rF (sF s10 0 29 ((rF s10 0 29) + 1)) 0 19 → rF s57 0 28 = rF (sF s10 0 29 ((rF s10 0 29) + 1)) 0 28 → rF s57 0 29 = rF (sF s10 0 29 ((rF s10 0 29) + 1)) 0 29 → (∀ i, rA s57 1026 i = rA (sF s10 0 29 ((rF s10 0 29) + 1)) 1026 i) → post_X14_note (sF s10 0 29 ((rF s10 0 29) + 1)) 3 32 x1 s57 → rng (((rF s10 0 29) + 1) + 1) ∧ (inv_X14_readBytes_170 σ x1 (sF s57 0 29 (((rF s10 0 29) + 1) + 1)) ∧ (mu_X14_readBytes_170 σ x1 (sF s57 0 29 (((rF s10 0 29) + 1) + 1)) ) < (mu_X14_readBytes_170 σ x1 s10 )))) ∧ (x40 = 116 → pre_X14_note (sF s10 0 29 ((rF s10 0 29) + 1)) 3 9 x1 ∧ (∀ (s62 : rS), rWF s62 → (TPRp (sF s10 0 29 ((rF s10 0 29) + 1)) → TPRp s62) → rF s62 0 10 = rF (sF s10 0 29 ((rF s10 0 29) + 1)) 0 10 → rF s62 0 19 = rF (sF s10 0 29 ((rF s10 0 29) + 1)) 0 19 → rF s62 0 28 = rF (sF s10 0 29 ((rF s10 0 29) + 1)) 0 28 → rF s62 0 29 = rF (sF s10 0 29 ((rF s10 0 29) + 1)) 0 29 → (∀ i, rA s62 1026 i = rA (sF s10 0 29 ((rF s10 0 29) + 1)) 1026 i) → post_X14_note (sF s10 0 29 ((rF s10 0 29) + 1)) 3 9 x1 s62 → rng (((rF s10 0 29) + 1) + 1) ∧ (inv_X14_readBytes_170 σ x1 (sF s62 0 29 (((rF s10 0 29) + 1) + 1)) ∧ (mu_X14_readBytes_170 σ x1 (sF s62 0 29 (((rF s10 0 29) + 1) + 1)) ) < (mu_X14_readBytes_170 σ x1 s10 )))))) ∧ (x40 = 110 → pre_X14_note (sF s10 0 29 ((rF s10 0 29) + 1)) 3 10 x1 ∧ (∀ (s67 : rS), rWF s67 → (TPRp (sF s10 0 29 ((rF s10 0 29) + 1)) → TPRp s67) → rF s67 0 10 = rF (sF s10 0 29 ((rF s10 0 29) + 1)) 0 10 → rF s67 0 19 = rF (sF s10 0 29 ((rF s10 0 29) + 1)) 0 19 → rF s67 0 28 = rF (sF s10 0 29 ((rF s10 0 29) + 1)) 0 28 → rF s67 0 29 = rF (sF s10 0 29 ((rF s10 0 29) + 1)) 0 29 → (∀ i, rA s67 1026 i = rA (sF s10 0 29 ((rF s10 0 29) + 1)) 1026 i) → post_X14_note (sF s10 0 29 ((rF s10 0 29) + 1)) 3 10 x1 s67 → rng (((rF s10 0 29) + 1) + 1) ∧ (inv_X14_readBytes_170 σ x1 (sF s67 0 29 (((rF s10 0 29) + 1) + 1)) ∧ (mu_X14_readBytes_170 σ x1 (sF s67 0 29 (((rF s10 0 29) + 1) + 1)) ) < (mu_X14_readBytes_170 σ x1 s10 )))))) ∧ (¬ x40 = 116 → ((x40 = 32 → ((¬ x40 = 110 → ((¬ x40 = 116 → pre_X14_note (sF s10 0 29 ((rF s10 0 29) + 1)) 3 32 x1 ∧ (∀ (s72 : rS), rWF s72 → (TPRp (sF s10 0 29 ((rF s10 0 29) + 1)) → TPRp s72) → rF s72 0 10 = rF (sF s10 0 29 ((rF s10 0 29) + 1)) 0 10 → rF s72 0 19 = rF (sF s10 0 29 ((rF s10 0 29) + 1)) 0 19 → rF s72 0 28 = rF (sF s10 0 29 ((rF s10 0 29) + 1)) 0 28 → rF s72 0 29 = rF (sF s10 0 29 ((rF s10 0 29) + 1)) 0 29 → (∀ i, rA s72 1026 i = rA (sF s10 0 29 ((rF s10 0 29) + 1)) 1026 i) → post_X14_note (sF s10 0 29 ((rF s10 0 29) + 1)) 3 32 x1 s72 → rng (((rF s10 0 29) + 1) + 1) ∧ (inv_X14_readBytes_170 σ x1 (sF s72 0 29 (((rF s10 0 29) + 1) + 1)) ∧ (mu_X14_readBytes_170 σ x1 (sF s72 0 29 (((rF s10 0 29) + 1) + 1)) ) < (mu_X14_readBytes_170 σ x1 s10 )))) ∧ (x40 = 116 → pre_X14_note (sF s10 0 29 ((rF s10 0 29) + 1)) 3 9 x1 ∧ (∀ (s77 : rS), rWF s77 → (TPRp (sF s10 0 29 ((rF s10 0 29) + 1)) → TPRp s77) → rF s77 0 10 = rF (sF s10 0 29 ((rF s10 0 29) + 1)) 0 10 → rF s77 0 19 = rF (sF s10 0 29 ((rF s10 0 29) + 1)) 0 19 → rF s77 0 28 = rF (sF s10 0 29 ((rF s10 0 29) + 1)) 0 28 → rF s77 0 29 = rF (sF s10 0 29 ((rF s10 0 29) + 1)) 0 29 → (∀ i, rA s77 1026 i = rA (sF s10 0 29 ((rF s10 0 29) + 1)) 1026 i) → post_X14_note (sF s10 0 29 ((rF s10 0 29) + 1)) 3 9 x1 s77 → rng (((rF s10 0 29) + 1) + 1) ∧ (inv_X14_readBytes_170 σ x1 (sF s77 0 29 (((rF s10 0 29) + 1) + 1)) ∧ (mu_X14_readBytes_170 σ x1 (sF s77 0 29 (((rF s10 0 29) + 1) + 1)) ) < (mu_X14_readBytes_170 σ x1 s10 )))))) ∧ (x40 = 110 → pre_X14_note (sF s10 0 29 ((rF s10 0 29) + 1)) 3 10 x1 ∧ (∀ (s82 : rS), rWF s82 → (TPRp (sF s10 0 29 ((rF s10 0 29) + 1)) → TPRp s82) → rF s82 0 10 = rF (sF s10 0 29 ((rF s10 0 29) + 1)) 0 10 → rF s82 0 19 = rF (sF s10 0 29 ((rF s10 0 29) + 1)) 0 19 → rF s82 0 28 = rF (sF s10 0 29 ((rF s10 0 29) + 1)) 0 28 → rF s82 0 29 = rF (sF s10 0 29 ((rF s10 0 29) + 1)) 0 29 → (∀ i, rA s82 1026 i = rA (sF s10 0 29 ((rF s10 0 29) + 1)) 1026 i) → post_X14_note (sF s10 0 29 ((rF s10 0 29) + 1)) 3 10 x1 s82 → rng (((rF s10 0 29) + 1) + 1) ∧ (inv_X14_readBytes_170 σ x1 (sF s82 0 29 (((rF s10 0 29) + 1) + 1)) ∧ (mu_X14_readBytes_170 σ x1 (sF s82 0 29 (((rF s10 0 29) + 1) + 1)) ) < (mu_X14_readBytes_170 σ x1 s10 )))))) ∧ (¬ x40 = 32 → pre_X14_place (sF s10 0 29 ((rF s10 0 29) + 1)) ∧ (∀ (x88 : Int), rng x88 → post_X14_place (sF s10 0 29 ((rF s10 0 29) + 1)) x88 → pre_X14_bad (sF s10 0 29 ((rF s10 0 29) + 1)) 1 x88 ∧ (∀ (s90 : rS), rWF s90 → (TPRp (sF s10 0 29 ((rF s10 0 29) + 1)) → TPRp s90) → (WNp (sF s10 0 29 ((rF s10 0 29) + 1)) → WNp s90) → rF s90 0 19 = rF (sF s10 0 29 ((rF s10 0 29) + 1)) 0 19 → rF s90 0 28 = rF (sF s10 0 29 ((rF s10 0 29) + 1)) 0 28 → rF s90 0 29 = rF (sF s10 0 29 ((rF s10 0 29) + 1)) 0 29 → rF s90 0 38 = rF (sF s10 0 29 ((rF s10 0 29) + 1)) 0 38 → (∀ i, rA s90 1026 i = rA (sF s10 0 29 ((rF s10 0 29) + 1)) 1026 i) → post_X14_bad (sF s10 0 29 ((rF s10 0 29) + 1)) 1 x88 s90 → Q s90)))))))))))))))))
def VC_X14_readBytes_170m (σ : rS) (x1 : Int) : Prop := ∀ (s10 : rS), rWF s10 → (TPRp σ → TPRp s10) → rF s10 0 19 = rF σ 0 19 → rF s10 0 28 = rF σ 0 28 → (∀ i, rA s10 1026 i = rA σ 1026 i) → inv_X14_readBytes_170 σ x1 s10 → 0 < (mu_X14_readBytes_170 σ x1 s10 )
def VC_X14_readBytes_130 (σ : rS) (x1 : Int) (Q : rS → Prop) : Prop := ∀ (s115 : rS), rWF s115 → (TPRp σ → TPRp s115) → rF s115 0 19 = rF σ 0 19 → rF s115 0 28 = rF σ 0 28 → (∀ i, rA s115 1026 i = rA σ 1026 i) → inv_X14_readBytes_130 σ x1 s115 → (pre_X14_here s115 ∧ (∀ (x118 : Int), rng x118 → post_X14_here s115 x118 → ((x118 = 32 → (rng (rF s115 0 29) → rng ((rF s115 0 29) + 1) ∧ (inv_X14_readBytes_130 σ x1 (sF s115 0 29 ((rF s115 0 29) + 1)) ∧ (mu_X14_readBytes_130 σ x1 (sF s115 0 29 ((rF s115 0 29) + 1)) ) < (mu_X14_readBytes_130 σ x1 s115 )))) ∧ (¬ x118 = 32 → pre_X14_here s115 ∧ (∀ (x123 : Int), rng x123 → post_X14_here s115 x123 → ((¬ x123 = 9 → pre_X14_note s115 20 0 x1 ∧ (∀ (s125 : rS), rWF s125 → (TPRp s115 → TPRp s125) → rF s125 0 10 = rF s115 0 10 → rF s125 0 19 = rF s115 0 19 → rF s125 0 28 = rF s115 0 28 → rF s125 0 29 = rF s115 0 29 → (∀ i, rA s125 1026 i = rA s115 1026 i) → post_X14_note s115 20 0 x1 s125 → Q s125)) ∧ (x123 = 9 → (rng (rF s115 0 29) → rng ((rF s115 0 29) + 1) ∧ (inv_X14_readBytes_130 σ x1 (sF s115 0 29 ((rF s115 0 29) + 1)) ∧ (mu_X14_readBytes_130 σ x1 (sF s115 0 29 ((rF s115 0 29) + 1)) ) < (mu_X14_readBytes_130 σ x1 s115 ))))))))))
def VC_X14_readBytes_130m (σ : rS) (x1 : Int) : Prop := ∀ (s115 : rS), rWF s115 → (TPRp σ → TPRp s115) → rF s115 0 19 = rF σ 0 19 → rF s115 0 28 = rF σ 0 28 → (∀ i, rA s115 1026 i = rA σ 1026 i) → inv_X14_readBytes_130 σ x1 s115 → 0 < (mu_X14_readBytes_130 σ x1 s115 )
def VC_X14_readBytes_70 (σ : rS) (x1 : Int) (Q : rS → Prop) : Prop := ∀ (s101 : rS), rWF s101 → (TPRp σ → TPRp s101) → rF s101 0 19 = rF σ 0 19 → rF s101 0 28 = rF σ 0 28 → (∀ i, rA s101 1026 i = rA σ 1026 i) → inv_X14_readBytes_70 σ x1 s101 → (pre_X14_here s101 ∧ (∀ (x104 : Int), rng x104 → post_X14_here s101 x104 → ((x104 = 32 → (rng (rF s101 0 29) → rng ((rF s101 0 29) + 1) ∧ (inv_X14_readBytes_70 σ x1 (sF s101 0 29 ((rF s101 0 29) + 1)) ∧ (mu_X14_readBytes_70 σ x1 (sF s101 0 29 ((rF s101 0 29) + 1)) ) < (mu_X14_readBytes_70 σ x1 s101 )))) ∧ (¬ x104 = 32 → pre_X14_here s101 ∧ (∀ (x109 : Int), rng x109 → post_X14_here s101 x109 → ((¬ x109 = 9 → pre_X14_here s101 ∧ (∀ (x112 : Int), rng x112 → post_X14_here s101 x112 → ((x112 = 10 → (rng (rF s101 0 29) → rng ((rF s101 0 29) + 1) ∧ (inv_X14_readBytes_130 σ x1 (sF s101 0 29 ((rF s101 0 29) + 1))))) ∧ (¬ x112 = 10 → pre_X14_place s101 ∧ (∀ (x131 : Int), rng x131 → post_X14_place s101 x131 → pre_X14_bad s101 1 x131 ∧ (∀ (s133 : rS), rWF s133 → (TPRp s101 → TPRp s133) → (WNp s101 → WNp s133) → rF s133 0 19 = rF s101 0 19 → rF s133 0 28 = rF s101 0 28 → rF s133 0 29 = rF s101 0 29 → rF s133 0 38 = rF s101 0 38 → (∀ i, rA s133 1026 i = rA s101 1026 i) → post_X14_bad s101 1 x131 s133 → Q s133)))))) ∧ (x109 = 9 → (rng (rF s101 0 29) → rng ((rF s101 0 29) + 1) ∧ (inv_X14_readBytes_70 σ x1 (sF s101 0 29 ((rF s101 0 29) + 1)) ∧ (mu_X14_readBytes_70 σ x1 (sF s101 0 29 ((rF s101 0 29) + 1)) ) < (mu_X14_readBytes_70 σ x1 s101 ))))))))))
def VC_X14_readBytes_70m (σ : rS) (x1 : Int) : Prop := ∀ (s101 : rS), rWF s101 → (TPRp σ → TPRp s101) → rF s101 0 19 = rF σ 0 19 → rF s101 0 28 = rF σ 0 28 → (∀ i, rA s101 1026 i = rA σ 1026 i) → inv_X14_readBytes_70 σ x1 s101 → 0 < (mu_X14_readBytes_70 σ x1 s101 )
set_option maxHeartbeats 400000 in
theorem vX14_readBytes (σ : rS) (x1 : Int) (hwf : rWF σ) (hx1 : rng x1) (hp : pre_X14_readBytes σ x1) : VC_X14_readBytes σ x1 (post_X14_readBytes σ x1) := by
  simp only [VC_X14_readBytes, pre_X14_readBytes, post_X14_readBytes, inv_X14_readBytes_70, inv_X14_readBytes_130, inv_X14_readBytes_170, mu_X14_readBytes_70, mu_X14_readBytes_130, mu_X14_readBytes_170, pre_X14_place, pre_X14_bad, pre_X14_note, pre_X14_here, post_X14_place, post_X14_bad, post_X14_note, post_X14_here, rng, rfk, rNMp, rF_sF, rF_sA, rF_sL, rF_sR, rA_sA, rA_sF, rA_sL, rA_sR, rR_sF, rR_sA, rR_sL, rR_sR, reduceIte, and_true, true_and, and_false, false_and, and_self, TPRp_sL, TPRp_sF0, TPRp_sF3, TPRp_sF10, TPRp_sF11, TPRp_sF12, TPRp_sF13, TPRp_sF14, TPRp_sF16, TPRp_sF17, TPRp_sF18, TPRp_sF19, TPRp_sF21, TPRp_sF22, TPRp_sF23, TPRp_sF24, TPRp_sF25, TPRp_sF29, TPRp_sF31, TPRp_sF32, TPRp_sF33, TPRp_sF38, TPRp_sF39, TPRp_sF41, TPRp_sF42, TPRp_sF43, TPRp_sF44, TPRp_sF45, TPRp_sF60, TPRp_sF65, TPRp_sF66, TPRp_sF67, TPRp_sF68, TPRp_sF70, TPRp_sF71, TPRp_sF72, TPRp_sF73, TPRp_sF74, TPRp_sF80, TPRp_sF81, TPRp_sF82, TPRp_sF83, TPRp_sF88, TPRp_sF92, TPRp_sF94, TPRp_sF96, TPRp_sF97, TPRp_sF98, TPRp_sF99, TPRp_sF100, TPRp_sF101, TPRp_sF103, TPRp_sF104, TPRp_sF112, TPRp_sF113, TPRp_sF118, TPRp_sF119, TPRp_sF122, TPRp_sF123, TPRp_sF135, TPRp_sF137, TPRp_sA1, TPRp_sA2, TPRp_sA5, TPRp_sA20, TPRp_sA26, TPRp_sA34, TPRp_sA35, TPRp_sA36, TPRp_sA37, TPRp_sA40, TPRp_sA46, TPRp_sA47, TPRp_sA48, TPRp_sA49, TPRp_sA50, TPRp_sA51, TPRp_sA52, TPRp_sA53, TPRp_sA54, TPRp_sA55, TPRp_sA56, TPRp_sA57, TPRp_sA58, TPRp_sA59, TPRp_sA61, TPRp_sA62, TPRp_sA63, TPRp_sA64, TPRp_sA69, TPRp_sA75, TPRp_sA76, TPRp_sA77, TPRp_sA78, TPRp_sA79, TPRp_sA84, TPRp_sA85, TPRp_sA86, TPRp_sA87, TPRp_sA89, TPRp_sA90, TPRp_sA91, TPRp_sA93, TPRp_sA102, TPRp_sA105, TPRp_sA106, TPRp_sA107, TPRp_sA108, TPRp_sA109, TPRp_sA110, TPRp_sA111, TPRp_sA114, TPRp_sA115, TPRp_sA116, TPRp_sA117, TPRp_sA120, TPRp_sA121, TPRp_sA124, TPRp_sA125, TPRp_sA126, TPRp_sA127, TPRp_sA128, TPRp_sA129, TPRp_sA136, TPRp_sA138, TPRp_gA0, TPRp_gA1, TPRp_gA2, TPRp_gA3, TPRp_gA4, TPRp_gA5, TPRp_gA6, TPRp_gA8, TPRp_gA10, TPRp_gA11, TPRp_gA15, TPRp_gA16, TPRp_gA17, TPRp_gA18, TPRp_gA19, TPRp_gA20, TPRp_gA21, TPRp_gA22, TPRp_gA23, TPRp_gA24, TPRp_gA25, TPRp_gA26, TPRp_gA29, TPRp_gA30, TPRp_gA31, TPRp_gA33, TPRp_gA34, TPRp_gA35, TPRp_gA36, TPRp_gA37, TPRp_sF7, TPRp_sF9, WNp_sL, WNp_sF0, WNp_sF3, WNp_sF10, WNp_sF11, WNp_sF12, WNp_sF13, WNp_sF14, WNp_sF16, WNp_sF17, WNp_sF18, WNp_sF19, WNp_sF21, WNp_sF22, WNp_sF23, WNp_sF24, WNp_sF25, WNp_sF28, WNp_sF29, WNp_sF30, WNp_sF31, WNp_sF32, WNp_sF33, WNp_sF39, WNp_sF41, WNp_sF42, WNp_sF43, WNp_sF44, WNp_sF45, WNp_sF60, WNp_sF65, WNp_sF66, WNp_sF67, WNp_sF68, WNp_sF70, WNp_sF71, WNp_sF72, WNp_sF73, WNp_sF74, WNp_sF80, WNp_sF81, WNp_sF82, WNp_sF83, WNp_sF88, WNp_sF92, WNp_sF94, WNp_sF96, WNp_sF97, WNp_sF98, WNp_sF99, WNp_sF100, WNp_sF101, WNp_sF103, WNp_sF104, WNp_sF112, WNp_sF113, WNp_sF118, WNp_sF119, WNp_sF122, WNp_sF123, WNp_sF135, WNp_sF137, WNp_sA1, WNp_sA2, WNp_sA5, WNp_sA20, WNp_sA26, WNp_sA27, WNp_sA40, WNp_sA46, WNp_sA47, WNp_sA48, WNp_sA49, WNp_sA50, WNp_sA51, WNp_sA52, WNp_sA53, WNp_sA54, WNp_sA55, WNp_sA56, WNp_sA57, WNp_sA58, WNp_sA59, WNp_sA61, WNp_sA62, WNp_sA63, WNp_sA64, WNp_sA69, WNp_sA75, WNp_sA76, WNp_sA77, WNp_sA78, WNp_sA79, WNp_sA84, WNp_sA85, WNp_sA86, WNp_sA87, WNp_sA89, WNp_sA90, WNp_sA91, WNp_sA93, WNp_sA102, WNp_sA105, WNp_sA106, WNp_sA107, WNp_sA108, WNp_sA109, WNp_sA110, WNp_sA111, WNp_sA114, WNp_sA115, WNp_sA116, WNp_sA117, WNp_sA120, WNp_sA121, WNp_sA124, WNp_sA125, WNp_sA126, WNp_sA127, WNp_sA128, WNp_sA129, WNp_sA136, WNp_sA138, WNp_gA0, WNp_gA1, WNp_gA2, WNp_gA3, WNp_gA4, WNp_gA5, WNp_gA6, WNp_gA8, WNp_gA10, WNp_gA11, WNp_gA15, WNp_gA16, WNp_gA17, WNp_gA18, WNp_gA19, WNp_gA20, WNp_gA21, WNp_gA22, WNp_gA23, WNp_gA24, WNp_gA25, WNp_gA26, WNp_gA27, WNp_gA29, WNp_gA30, WNp_gA31, WNp_gA33, WNp_sF7, WNp_sF9] at *
  (repeat' (first | with_reducible intro _ | with_reducible apply And.intro))
  all_goals (first | assumption | omega | grind (splits := 20) [rNM_sF0])
set_option maxHeartbeats 400000 in
theorem vX14_readBytes_170 (σ : rS) (x1 : Int) (hwf : rWF σ) (hx1 : rng x1) (hp : pre_X14_readBytes σ x1) : VC_X14_readBytes_170 σ x1 (post_X14_readBytes σ x1) := by
  simp only [VC_X14_readBytes_170, pre_X14_readBytes, post_X14_readBytes, inv_X14_readBytes_70, inv_X14_readBytes_130, inv_X14_readBytes_170, mu_X14_readBytes_70, mu_X14_readBytes_130, mu_X14_readBytes_170, pre_X14_place, pre_X14_bad, pre_X14_note, pre_X14_here, post_X14_place, post_X14_bad, post_X14_note, post_X14_here, rng, rfk, rNMp, rF_sF, rF_sA, rF_sL, rF_sR, rA_sA, rA_sF, rA_sL, rA_sR, rR_sF, rR_sA, rR_sL, rR_sR, reduceIte, and_true, true_and, and_false, false_and, and_self, TPRp_sL, TPRp_sF0, TPRp_sF3, TPRp_sF10, TPRp_sF11, TPRp_sF12, TPRp_sF13, TPRp_sF14, TPRp_sF16, TPRp_sF17, TPRp_sF18, TPRp_sF19, TPRp_sF21, TPRp_sF22, TPRp_sF23, TPRp_sF24, TPRp_sF25, TPRp_sF29, TPRp_sF31, TPRp_sF32, TPRp_sF33, TPRp_sF38, TPRp_sF39, TPRp_sF41, TPRp_sF42, TPRp_sF43, TPRp_sF44, TPRp_sF45, TPRp_sF60, TPRp_sF65, TPRp_sF66, TPRp_sF67, TPRp_sF68, TPRp_sF70, TPRp_sF71, TPRp_sF72, TPRp_sF73, TPRp_sF74, TPRp_sF80, TPRp_sF81, TPRp_sF82, TPRp_sF83, TPRp_sF88, TPRp_sF92, TPRp_sF94, TPRp_sF96, TPRp_sF97, TPRp_sF98, TPRp_sF99, TPRp_sF100, TPRp_sF101, TPRp_sF103, TPRp_sF104, TPRp_sF112, TPRp_sF113, TPRp_sF118, TPRp_sF119, TPRp_sF122, TPRp_sF123, TPRp_sF135, TPRp_sF137, TPRp_sA1, TPRp_sA2, TPRp_sA5, TPRp_sA20, TPRp_sA26, TPRp_sA34, TPRp_sA35, TPRp_sA36, TPRp_sA37, TPRp_sA40, TPRp_sA46, TPRp_sA47, TPRp_sA48, TPRp_sA49, TPRp_sA50, TPRp_sA51, TPRp_sA52, TPRp_sA53, TPRp_sA54, TPRp_sA55, TPRp_sA56, TPRp_sA57, TPRp_sA58, TPRp_sA59, TPRp_sA61, TPRp_sA62, TPRp_sA63, TPRp_sA64, TPRp_sA69, TPRp_sA75, TPRp_sA76, TPRp_sA77, TPRp_sA78, TPRp_sA79, TPRp_sA84, TPRp_sA85, TPRp_sA86, TPRp_sA87, TPRp_sA89, TPRp_sA90, TPRp_sA91, TPRp_sA93, TPRp_sA102, TPRp_sA105, TPRp_sA106, TPRp_sA107, TPRp_sA108, TPRp_sA109, TPRp_sA110, TPRp_sA111, TPRp_sA114, TPRp_sA115, TPRp_sA116, TPRp_sA117, TPRp_sA120, TPRp_sA121, TPRp_sA124, TPRp_sA125, TPRp_sA126, TPRp_sA127, TPRp_sA128, TPRp_sA129, TPRp_sA136, TPRp_sA138, TPRp_gA0, TPRp_gA1, TPRp_gA2, TPRp_gA3, TPRp_gA4, TPRp_gA5, TPRp_gA6, TPRp_gA8, TPRp_gA10, TPRp_gA11, TPRp_gA15, TPRp_gA16, TPRp_gA17, TPRp_gA18, TPRp_gA19, TPRp_gA20, TPRp_gA21, TPRp_gA22, TPRp_gA23, TPRp_gA24, TPRp_gA25, TPRp_gA26, TPRp_gA29, TPRp_gA30, TPRp_gA31, TPRp_gA33, TPRp_gA34, TPRp_gA35, TPRp_gA36, TPRp_gA37, TPRp_sF7, TPRp_sF9, WNp_sL, WNp_sF0, WNp_sF3, WNp_sF10, WNp_sF11, WNp_sF12, WNp_sF13, WNp_sF14, WNp_sF16, WNp_sF17, WNp_sF18, WNp_sF19, WNp_sF21, WNp_sF22, WNp_sF23, WNp_sF24, WNp_sF25, WNp_sF28, WNp_sF29, WNp_sF30, WNp_sF31, WNp_sF32, WNp_sF33, WNp_sF39, WNp_sF41, WNp_sF42, WNp_sF43, WNp_sF44, WNp_sF45, WNp_sF60, WNp_sF65, WNp_sF66, WNp_sF67, WNp_sF68, WNp_sF70, WNp_sF71, WNp_sF72, WNp_sF73, WNp_sF74, WNp_sF80, WNp_sF81, WNp_sF82, WNp_sF83, WNp_sF88, WNp_sF92, WNp_sF94, WNp_sF96, WNp_sF97, WNp_sF98, WNp_sF99, WNp_sF100, WNp_sF101, WNp_sF103, WNp_sF104, WNp_sF112, WNp_sF113, WNp_sF118, WNp_sF119, WNp_sF122, WNp_sF123, WNp_sF135, WNp_sF137, WNp_sA1, WNp_sA2, WNp_sA5, WNp_sA20, WNp_sA26, WNp_sA27, WNp_sA40, WNp_sA46, WNp_sA47, WNp_sA48, WNp_sA49, WNp_sA50, WNp_sA51, WNp_sA52, WNp_sA53, WNp_sA54, WNp_sA55, WNp_sA56, WNp_sA57, WNp_sA58, WNp_sA59, WNp_sA61, WNp_sA62, WNp_sA63, WNp_sA64, WNp_sA69, WNp_sA75, WNp_sA76, WNp_sA77, WNp_sA78, WNp_sA79, WNp_sA84, WNp_sA85, WNp_sA86, WNp_sA87, WNp_sA89, WNp_sA90, WNp_sA91, WNp_sA93, WNp_sA102, WNp_sA105, WNp_sA106, WNp_sA107, WNp_sA108, WNp_sA109, WNp_sA110, WNp_sA111, WNp_sA114, WNp_sA115, WNp_sA116, WNp_sA117, WNp_sA120, WNp_sA121, WNp_sA124, WNp_sA125, WNp_sA126, WNp_sA127, WNp_sA128, WNp_sA129, WNp_sA136, WNp_sA138, WNp_gA0, WNp_gA1, WNp_gA2, WNp_gA3, WNp_gA4, WNp_gA5, WNp_gA6, WNp_gA8, WNp_gA10, WNp_gA11, WNp_gA15, WNp_gA16, WNp_gA17, WNp_gA18, WNp_gA19, WNp_gA20, WNp_gA21, WNp_gA22, WNp_gA23, WNp_gA24, WNp_gA25, WNp_gA26, WNp_gA27, WNp_gA29, WNp_gA30, WNp_gA31, WNp_gA33, WNp_sF7, WNp_sF9] at *
  (repeat' (first | with_reducible intro _ | with_reducible apply And.intro))
  all_goals (first | assumption | omega | grind (splits := 20) [rNM_sF0])
set_option maxHeartbeats 400000 in
theorem vX14_readBytes_170m (σ : rS) (x1 : Int) (hwf : rWF σ) (hx1 : rng x1) (hp : pre_X14_readBytes σ x1) : VC_X14_readBytes_170m σ x1 := by
  simp only [VC_X14_readBytes_170m, pre_X14_readBytes, post_X14_readBytes, inv_X14_readBytes_70, inv_X14_readBytes_130, inv_X14_readBytes_170, mu_X14_readBytes_70, mu_X14_readBytes_130, mu_X14_readBytes_170, pre_X14_place, pre_X14_bad, pre_X14_note, pre_X14_here, post_X14_place, post_X14_bad, post_X14_note, post_X14_here, rng, rfk, rNMp, rF_sF, rF_sA, rF_sL, rF_sR, rA_sA, rA_sF, rA_sL, rA_sR, rR_sF, rR_sA, rR_sL, rR_sR, reduceIte, and_true, true_and, and_false, false_and, and_self, TPRp_sL, TPRp_sF0, TPRp_sF3, TPRp_sF10, TPRp_sF11, TPRp_sF12, TPRp_sF13, TPRp_sF14, TPRp_sF16, TPRp_sF17, TPRp_sF18, TPRp_sF19, TPRp_sF21, TPRp_sF22, TPRp_sF23, TPRp_sF24, TPRp_sF25, TPRp_sF29, TPRp_sF31, TPRp_sF32, TPRp_sF33, TPRp_sF38, TPRp_sF39, TPRp_sF41, TPRp_sF42, TPRp_sF43, TPRp_sF44, TPRp_sF45, TPRp_sF60, TPRp_sF65, TPRp_sF66, TPRp_sF67, TPRp_sF68, TPRp_sF70, TPRp_sF71, TPRp_sF72, TPRp_sF73, TPRp_sF74, TPRp_sF80, TPRp_sF81, TPRp_sF82, TPRp_sF83, TPRp_sF88, TPRp_sF92, TPRp_sF94, TPRp_sF96, TPRp_sF97, TPRp_sF98, TPRp_sF99, TPRp_sF100, TPRp_sF101, TPRp_sF103, TPRp_sF104, TPRp_sF112, TPRp_sF113, TPRp_sF118, TPRp_sF119, TPRp_sF122, TPRp_sF123, TPRp_sF135, TPRp_sF137, TPRp_sA1, TPRp_sA2, TPRp_sA5, TPRp_sA20, TPRp_sA26, TPRp_sA34, TPRp_sA35, TPRp_sA36, TPRp_sA37, TPRp_sA40, TPRp_sA46, TPRp_sA47, TPRp_sA48, TPRp_sA49, TPRp_sA50, TPRp_sA51, TPRp_sA52, TPRp_sA53, TPRp_sA54, TPRp_sA55, TPRp_sA56, TPRp_sA57, TPRp_sA58, TPRp_sA59, TPRp_sA61, TPRp_sA62, TPRp_sA63, TPRp_sA64, TPRp_sA69, TPRp_sA75, TPRp_sA76, TPRp_sA77, TPRp_sA78, TPRp_sA79, TPRp_sA84, TPRp_sA85, TPRp_sA86, TPRp_sA87, TPRp_sA89, TPRp_sA90, TPRp_sA91, TPRp_sA93, TPRp_sA102, TPRp_sA105, TPRp_sA106, TPRp_sA107, TPRp_sA108, TPRp_sA109, TPRp_sA110, TPRp_sA111, TPRp_sA114, TPRp_sA115, TPRp_sA116, TPRp_sA117, TPRp_sA120, TPRp_sA121, TPRp_sA124, TPRp_sA125, TPRp_sA126, TPRp_sA127, TPRp_sA128, TPRp_sA129, TPRp_sA136, TPRp_sA138, TPRp_gA0, TPRp_gA1, TPRp_gA2, TPRp_gA3, TPRp_gA4, TPRp_gA5, TPRp_gA6, TPRp_gA8, TPRp_gA10, TPRp_gA11, TPRp_gA15, TPRp_gA16, TPRp_gA17, TPRp_gA18, TPRp_gA19, TPRp_gA20, TPRp_gA21, TPRp_gA22, TPRp_gA23, TPRp_gA24, TPRp_gA25, TPRp_gA26, TPRp_gA29, TPRp_gA30, TPRp_gA31, TPRp_gA33, TPRp_gA34, TPRp_gA35, TPRp_gA36, TPRp_gA37, TPRp_sF7, TPRp_sF9, WNp_sL, WNp_sF0, WNp_sF3, WNp_sF10, WNp_sF11, WNp_sF12, WNp_sF13, WNp_sF14, WNp_sF16, WNp_sF17, WNp_sF18, WNp_sF19, WNp_sF21, WNp_sF22, WNp_sF23, WNp_sF24, WNp_sF25, WNp_sF28, WNp_sF29, WNp_sF30, WNp_sF31, WNp_sF32, WNp_sF33, WNp_sF39, WNp_sF41, WNp_sF42, WNp_sF43, WNp_sF44, WNp_sF45, WNp_sF60, WNp_sF65, WNp_sF66, WNp_sF67, WNp_sF68, WNp_sF70, WNp_sF71, WNp_sF72, WNp_sF73, WNp_sF74, WNp_sF80, WNp_sF81, WNp_sF82, WNp_sF83, WNp_sF88, WNp_sF92, WNp_sF94, WNp_sF96, WNp_sF97, WNp_sF98, WNp_sF99, WNp_sF100, WNp_sF101, WNp_sF103, WNp_sF104, WNp_sF112, WNp_sF113, WNp_sF118, WNp_sF119, WNp_sF122, WNp_sF123, WNp_sF135, WNp_sF137, WNp_sA1, WNp_sA2, WNp_sA5, WNp_sA20, WNp_sA26, WNp_sA27, WNp_sA40, WNp_sA46, WNp_sA47, WNp_sA48, WNp_sA49, WNp_sA50, WNp_sA51, WNp_sA52, WNp_sA53, WNp_sA54, WNp_sA55, WNp_sA56, WNp_sA57, WNp_sA58, WNp_sA59, WNp_sA61, WNp_sA62, WNp_sA63, WNp_sA64, WNp_sA69, WNp_sA75, WNp_sA76, WNp_sA77, WNp_sA78, WNp_sA79, WNp_sA84, WNp_sA85, WNp_sA86, WNp_sA87, WNp_sA89, WNp_sA90, WNp_sA91, WNp_sA93, WNp_sA102, WNp_sA105, WNp_sA106, WNp_sA107, WNp_sA108, WNp_sA109, WNp_sA110, WNp_sA111, WNp_sA114, WNp_sA115, WNp_sA116, WNp_sA117, WNp_sA120, WNp_sA121, WNp_sA124, WNp_sA125, WNp_sA126, WNp_sA127, WNp_sA128, WNp_sA129, WNp_sA136, WNp_sA138, WNp_gA0, WNp_gA1, WNp_gA2, WNp_gA3, WNp_gA4, WNp_gA5, WNp_gA6, WNp_gA8, WNp_gA10, WNp_gA11, WNp_gA15, WNp_gA16, WNp_gA17, WNp_gA18, WNp_gA19, WNp_gA20, WNp_gA21, WNp_gA22, WNp_gA23, WNp_gA24, WNp_gA25, WNp_gA26, WNp_gA27, WNp_gA29, WNp_gA30, WNp_gA31, WNp_gA33, WNp_sF7, WNp_sF9] at *
  (repeat' (first | with_reducible intro _ | with_reducible apply And.intro))
  all_goals (first | assumption | omega | grind (splits := 20) [rNM_sF0])
set_option maxHeartbeats 400000 in
theorem vX14_readBytes_130 (σ : rS) (x1 : Int) (hwf : rWF σ) (hx1 : rng x1) (hp : pre_X14_readBytes σ x1) : VC_X14_readBytes_130 σ x1 (post_X14_readBytes σ x1) := by
  simp only [VC_X14_readBytes_130, pre_X14_readBytes, post_X14_readBytes, inv_X14_readBytes_70, inv_X14_readBytes_130, inv_X14_readBytes_170, mu_X14_readBytes_70, mu_X14_readBytes_130, mu_X14_readBytes_170, pre_X14_place, pre_X14_bad, pre_X14_note, pre_X14_here, post_X14_place, post_X14_bad, post_X14_note, post_X14_here, rng, rfk, rNMp, rF_sF, rF_sA, rF_sL, rF_sR, rA_sA, rA_sF, rA_sL, rA_sR, rR_sF, rR_sA, rR_sL, rR_sR, reduceIte, and_true, true_and, and_false, false_and, and_self, TPRp_sL, TPRp_sF0, TPRp_sF3, TPRp_sF10, TPRp_sF11, TPRp_sF12, TPRp_sF13, TPRp_sF14, TPRp_sF16, TPRp_sF17, TPRp_sF18, TPRp_sF19, TPRp_sF21, TPRp_sF22, TPRp_sF23, TPRp_sF24, TPRp_sF25, TPRp_sF29, TPRp_sF31, TPRp_sF32, TPRp_sF33, TPRp_sF38, TPRp_sF39, TPRp_sF41, TPRp_sF42, TPRp_sF43, TPRp_sF44, TPRp_sF45, TPRp_sF60, TPRp_sF65, TPRp_sF66, TPRp_sF67, TPRp_sF68, TPRp_sF70, TPRp_sF71, TPRp_sF72, TPRp_sF73, TPRp_sF74, TPRp_sF80, TPRp_sF81, TPRp_sF82, TPRp_sF83, TPRp_sF88, TPRp_sF92, TPRp_sF94, TPRp_sF96, TPRp_sF97, TPRp_sF98, TPRp_sF99, TPRp_sF100, TPRp_sF101, TPRp_sF103, TPRp_sF104, TPRp_sF112, TPRp_sF113, TPRp_sF118, TPRp_sF119, TPRp_sF122, TPRp_sF123, TPRp_sF135, TPRp_sF137, TPRp_sA1, TPRp_sA2, TPRp_sA5, TPRp_sA20, TPRp_sA26, TPRp_sA34, TPRp_sA35, TPRp_sA36, TPRp_sA37, TPRp_sA40, TPRp_sA46, TPRp_sA47, TPRp_sA48, TPRp_sA49, TPRp_sA50, TPRp_sA51, TPRp_sA52, TPRp_sA53, TPRp_sA54, TPRp_sA55, TPRp_sA56, TPRp_sA57, TPRp_sA58, TPRp_sA59, TPRp_sA61, TPRp_sA62, TPRp_sA63, TPRp_sA64, TPRp_sA69, TPRp_sA75, TPRp_sA76, TPRp_sA77, TPRp_sA78, TPRp_sA79, TPRp_sA84, TPRp_sA85, TPRp_sA86, TPRp_sA87, TPRp_sA89, TPRp_sA90, TPRp_sA91, TPRp_sA93, TPRp_sA102, TPRp_sA105, TPRp_sA106, TPRp_sA107, TPRp_sA108, TPRp_sA109, TPRp_sA110, TPRp_sA111, TPRp_sA114, TPRp_sA115, TPRp_sA116, TPRp_sA117, TPRp_sA120, TPRp_sA121, TPRp_sA124, TPRp_sA125, TPRp_sA126, TPRp_sA127, TPRp_sA128, TPRp_sA129, TPRp_sA136, TPRp_sA138, TPRp_gA0, TPRp_gA1, TPRp_gA2, TPRp_gA3, TPRp_gA4, TPRp_gA5, TPRp_gA6, TPRp_gA8, TPRp_gA10, TPRp_gA11, TPRp_gA15, TPRp_gA16, TPRp_gA17, TPRp_gA18, TPRp_gA19, TPRp_gA20, TPRp_gA21, TPRp_gA22, TPRp_gA23, TPRp_gA24, TPRp_gA25, TPRp_gA26, TPRp_gA29, TPRp_gA30, TPRp_gA31, TPRp_gA33, TPRp_gA34, TPRp_gA35, TPRp_gA36, TPRp_gA37, TPRp_sF7, TPRp_sF9, WNp_sL, WNp_sF0, WNp_sF3, WNp_sF10, WNp_sF11, WNp_sF12, WNp_sF13, WNp_sF14, WNp_sF16, WNp_sF17, WNp_sF18, WNp_sF19, WNp_sF21, WNp_sF22, WNp_sF23, WNp_sF24, WNp_sF25, WNp_sF28, WNp_sF29, WNp_sF30, WNp_sF31, WNp_sF32, WNp_sF33, WNp_sF39, WNp_sF41, WNp_sF42, WNp_sF43, WNp_sF44, WNp_sF45, WNp_sF60, WNp_sF65, WNp_sF66, WNp_sF67, WNp_sF68, WNp_sF70, WNp_sF71, WNp_sF72, WNp_sF73, WNp_sF74, WNp_sF80, WNp_sF81, WNp_sF82, WNp_sF83, WNp_sF88, WNp_sF92, WNp_sF94, WNp_sF96, WNp_sF97, WNp_sF98, WNp_sF99, WNp_sF100, WNp_sF101, WNp_sF103, WNp_sF104, WNp_sF112, WNp_sF113, WNp_sF118, WNp_sF119, WNp_sF122, WNp_sF123, WNp_sF135, WNp_sF137, WNp_sA1, WNp_sA2, WNp_sA5, WNp_sA20, WNp_sA26, WNp_sA27, WNp_sA40, WNp_sA46, WNp_sA47, WNp_sA48, WNp_sA49, WNp_sA50, WNp_sA51, WNp_sA52, WNp_sA53, WNp_sA54, WNp_sA55, WNp_sA56, WNp_sA57, WNp_sA58, WNp_sA59, WNp_sA61, WNp_sA62, WNp_sA63, WNp_sA64, WNp_sA69, WNp_sA75, WNp_sA76, WNp_sA77, WNp_sA78, WNp_sA79, WNp_sA84, WNp_sA85, WNp_sA86, WNp_sA87, WNp_sA89, WNp_sA90, WNp_sA91, WNp_sA93, WNp_sA102, WNp_sA105, WNp_sA106, WNp_sA107, WNp_sA108, WNp_sA109, WNp_sA110, WNp_sA111, WNp_sA114, WNp_sA115, WNp_sA116, WNp_sA117, WNp_sA120, WNp_sA121, WNp_sA124, WNp_sA125, WNp_sA126, WNp_sA127, WNp_sA128, WNp_sA129, WNp_sA136, WNp_sA138, WNp_gA0, WNp_gA1, WNp_gA2, WNp_gA3, WNp_gA4, WNp_gA5, WNp_gA6, WNp_gA8, WNp_gA10, WNp_gA11, WNp_gA15, WNp_gA16, WNp_gA17, WNp_gA18, WNp_gA19, WNp_gA20, WNp_gA21, WNp_gA22, WNp_gA23, WNp_gA24, WNp_gA25, WNp_gA26, WNp_gA27, WNp_gA29, WNp_gA30, WNp_gA31, WNp_gA33, WNp_sF7, WNp_sF9] at *
  (repeat' (first | with_reducible intro _ | with_reducible apply And.intro))
  all_goals (first | assumption | omega | grind (splits := 20) [rNM_sF0])
set_option maxHeartbeats 400000 in
theorem vX14_readBytes_130m (σ : rS) (x1 : Int) (hwf : rWF σ) (hx1 : rng x1) (hp : pre_X14_readBytes σ x1) : VC_X14_readBytes_130m σ x1 := by
  simp only [VC_X14_readBytes_130m, pre_X14_readBytes, post_X14_readBytes, inv_X14_readBytes_70, inv_X14_readBytes_130, inv_X14_readBytes_170, mu_X14_readBytes_70, mu_X14_readBytes_130, mu_X14_readBytes_170, pre_X14_place, pre_X14_bad, pre_X14_note, pre_X14_here, post_X14_place, post_X14_bad, post_X14_note, post_X14_here, rng, rfk, rNMp, rF_sF, rF_sA, rF_sL, rF_sR, rA_sA, rA_sF, rA_sL, rA_sR, rR_sF, rR_sA, rR_sL, rR_sR, reduceIte, and_true, true_and, and_false, false_and, and_self, TPRp_sL, TPRp_sF0, TPRp_sF3, TPRp_sF10, TPRp_sF11, TPRp_sF12, TPRp_sF13, TPRp_sF14, TPRp_sF16, TPRp_sF17, TPRp_sF18, TPRp_sF19, TPRp_sF21, TPRp_sF22, TPRp_sF23, TPRp_sF24, TPRp_sF25, TPRp_sF29, TPRp_sF31, TPRp_sF32, TPRp_sF33, TPRp_sF38, TPRp_sF39, TPRp_sF41, TPRp_sF42, TPRp_sF43, TPRp_sF44, TPRp_sF45, TPRp_sF60, TPRp_sF65, TPRp_sF66, TPRp_sF67, TPRp_sF68, TPRp_sF70, TPRp_sF71, TPRp_sF72, TPRp_sF73, TPRp_sF74, TPRp_sF80, TPRp_sF81, TPRp_sF82, TPRp_sF83, TPRp_sF88, TPRp_sF92, TPRp_sF94, TPRp_sF96, TPRp_sF97, TPRp_sF98, TPRp_sF99, TPRp_sF100, TPRp_sF101, TPRp_sF103, TPRp_sF104, TPRp_sF112, TPRp_sF113, TPRp_sF118, TPRp_sF119, TPRp_sF122, TPRp_sF123, TPRp_sF135, TPRp_sF137, TPRp_sA1, TPRp_sA2, TPRp_sA5, TPRp_sA20, TPRp_sA26, TPRp_sA34, TPRp_sA35, TPRp_sA36, TPRp_sA37, TPRp_sA40, TPRp_sA46, TPRp_sA47, TPRp_sA48, TPRp_sA49, TPRp_sA50, TPRp_sA51, TPRp_sA52, TPRp_sA53, TPRp_sA54, TPRp_sA55, TPRp_sA56, TPRp_sA57, TPRp_sA58, TPRp_sA59, TPRp_sA61, TPRp_sA62, TPRp_sA63, TPRp_sA64, TPRp_sA69, TPRp_sA75, TPRp_sA76, TPRp_sA77, TPRp_sA78, TPRp_sA79, TPRp_sA84, TPRp_sA85, TPRp_sA86, TPRp_sA87, TPRp_sA89, TPRp_sA90, TPRp_sA91, TPRp_sA93, TPRp_sA102, TPRp_sA105, TPRp_sA106, TPRp_sA107, TPRp_sA108, TPRp_sA109, TPRp_sA110, TPRp_sA111, TPRp_sA114, TPRp_sA115, TPRp_sA116, TPRp_sA117, TPRp_sA120, TPRp_sA121, TPRp_sA124, TPRp_sA125, TPRp_sA126, TPRp_sA127, TPRp_sA128, TPRp_sA129, TPRp_sA136, TPRp_sA138, TPRp_gA0, TPRp_gA1, TPRp_gA2, TPRp_gA3, TPRp_gA4, TPRp_gA5, TPRp_gA6, TPRp_gA8, TPRp_gA10, TPRp_gA11, TPRp_gA15, TPRp_gA16, TPRp_gA17, TPRp_gA18, TPRp_gA19, TPRp_gA20, TPRp_gA21, TPRp_gA22, TPRp_gA23, TPRp_gA24, TPRp_gA25, TPRp_gA26, TPRp_gA29, TPRp_gA30, TPRp_gA31, TPRp_gA33, TPRp_gA34, TPRp_gA35, TPRp_gA36, TPRp_gA37, TPRp_sF7, TPRp_sF9, WNp_sL, WNp_sF0, WNp_sF3, WNp_sF10, WNp_sF11, WNp_sF12, WNp_sF13, WNp_sF14, WNp_sF16, WNp_sF17, WNp_sF18, WNp_sF19, WNp_sF21, WNp_sF22, WNp_sF23, WNp_sF24, WNp_sF25, WNp_sF28, WNp_sF29, WNp_sF30, WNp_sF31, WNp_sF32, WNp_sF33, WNp_sF39, WNp_sF41, WNp_sF42, WNp_sF43, WNp_sF44, WNp_sF45, WNp_sF60, WNp_sF65, WNp_sF66, WNp_sF67, WNp_sF68, WNp_sF70, WNp_sF71, WNp_sF72, WNp_sF73, WNp_sF74, WNp_sF80, WNp_sF81, WNp_sF82, WNp_sF83, WNp_sF88, WNp_sF92, WNp_sF94, WNp_sF96, WNp_sF97, WNp_sF98, WNp_sF99, WNp_sF100, WNp_sF101, WNp_sF103, WNp_sF104, WNp_sF112, WNp_sF113, WNp_sF118, WNp_sF119, WNp_sF122, WNp_sF123, WNp_sF135, WNp_sF137, WNp_sA1, WNp_sA2, WNp_sA5, WNp_sA20, WNp_sA26, WNp_sA27, WNp_sA40, WNp_sA46, WNp_sA47, WNp_sA48, WNp_sA49, WNp_sA50, WNp_sA51, WNp_sA52, WNp_sA53, WNp_sA54, WNp_sA55, WNp_sA56, WNp_sA57, WNp_sA58, WNp_sA59, WNp_sA61, WNp_sA62, WNp_sA63, WNp_sA64, WNp_sA69, WNp_sA75, WNp_sA76, WNp_sA77, WNp_sA78, WNp_sA79, WNp_sA84, WNp_sA85, WNp_sA86, WNp_sA87, WNp_sA89, WNp_sA90, WNp_sA91, WNp_sA93, WNp_sA102, WNp_sA105, WNp_sA106, WNp_sA107, WNp_sA108, WNp_sA109, WNp_sA110, WNp_sA111, WNp_sA114, WNp_sA115, WNp_sA116, WNp_sA117, WNp_sA120, WNp_sA121, WNp_sA124, WNp_sA125, WNp_sA126, WNp_sA127, WNp_sA128, WNp_sA129, WNp_sA136, WNp_sA138, WNp_gA0, WNp_gA1, WNp_gA2, WNp_gA3, WNp_gA4, WNp_gA5, WNp_gA6, WNp_gA8, WNp_gA10, WNp_gA11, WNp_gA15, WNp_gA16, WNp_gA17, WNp_gA18, WNp_gA19, WNp_gA20, WNp_gA21, WNp_gA22, WNp_gA23, WNp_gA24, WNp_gA25, WNp_gA26, WNp_gA27, WNp_gA29, WNp_gA30, WNp_gA31, WNp_gA33, WNp_sF7, WNp_sF9] at *
  (repeat' (first | with_reducible intro _ | with_reducible apply And.intro))
  all_goals (first | assumption | omega | grind (splits := 20) [rNM_sF0])
set_option maxHeartbeats 400000 in
theorem vX14_readBytes_70 (σ : rS) (x1 : Int) (hwf : rWF σ) (hx1 : rng x1) (hp : pre_X14_readBytes σ x1) : VC_X14_readBytes_70 σ x1 (post_X14_readBytes σ x1) := by
  simp only [VC_X14_readBytes_70, pre_X14_readBytes, post_X14_readBytes, inv_X14_readBytes_70, inv_X14_readBytes_130, inv_X14_readBytes_170, mu_X14_readBytes_70, mu_X14_readBytes_130, mu_X14_readBytes_170, pre_X14_place, pre_X14_bad, pre_X14_note, pre_X14_here, post_X14_place, post_X14_bad, post_X14_note, post_X14_here, rng, rfk, rNMp, rF_sF, rF_sA, rF_sL, rF_sR, rA_sA, rA_sF, rA_sL, rA_sR, rR_sF, rR_sA, rR_sL, rR_sR, reduceIte, and_true, true_and, and_false, false_and, and_self, TPRp_sL, TPRp_sF0, TPRp_sF3, TPRp_sF10, TPRp_sF11, TPRp_sF12, TPRp_sF13, TPRp_sF14, TPRp_sF16, TPRp_sF17, TPRp_sF18, TPRp_sF19, TPRp_sF21, TPRp_sF22, TPRp_sF23, TPRp_sF24, TPRp_sF25, TPRp_sF29, TPRp_sF31, TPRp_sF32, TPRp_sF33, TPRp_sF38, TPRp_sF39, TPRp_sF41, TPRp_sF42, TPRp_sF43, TPRp_sF44, TPRp_sF45, TPRp_sF60, TPRp_sF65, TPRp_sF66, TPRp_sF67, TPRp_sF68, TPRp_sF70, TPRp_sF71, TPRp_sF72, TPRp_sF73, TPRp_sF74, TPRp_sF80, TPRp_sF81, TPRp_sF82, TPRp_sF83, TPRp_sF88, TPRp_sF92, TPRp_sF94, TPRp_sF96, TPRp_sF97, TPRp_sF98, TPRp_sF99, TPRp_sF100, TPRp_sF101, TPRp_sF103, TPRp_sF104, TPRp_sF112, TPRp_sF113, TPRp_sF118, TPRp_sF119, TPRp_sF122, TPRp_sF123, TPRp_sF135, TPRp_sF137, TPRp_sA1, TPRp_sA2, TPRp_sA5, TPRp_sA20, TPRp_sA26, TPRp_sA34, TPRp_sA35, TPRp_sA36, TPRp_sA37, TPRp_sA40, TPRp_sA46, TPRp_sA47, TPRp_sA48, TPRp_sA49, TPRp_sA50, TPRp_sA51, TPRp_sA52, TPRp_sA53, TPRp_sA54, TPRp_sA55, TPRp_sA56, TPRp_sA57, TPRp_sA58, TPRp_sA59, TPRp_sA61, TPRp_sA62, TPRp_sA63, TPRp_sA64, TPRp_sA69, TPRp_sA75, TPRp_sA76, TPRp_sA77, TPRp_sA78, TPRp_sA79, TPRp_sA84, TPRp_sA85, TPRp_sA86, TPRp_sA87, TPRp_sA89, TPRp_sA90, TPRp_sA91, TPRp_sA93, TPRp_sA102, TPRp_sA105, TPRp_sA106, TPRp_sA107, TPRp_sA108, TPRp_sA109, TPRp_sA110, TPRp_sA111, TPRp_sA114, TPRp_sA115, TPRp_sA116, TPRp_sA117, TPRp_sA120, TPRp_sA121, TPRp_sA124, TPRp_sA125, TPRp_sA126, TPRp_sA127, TPRp_sA128, TPRp_sA129, TPRp_sA136, TPRp_sA138, TPRp_gA0, TPRp_gA1, TPRp_gA2, TPRp_gA3, TPRp_gA4, TPRp_gA5, TPRp_gA6, TPRp_gA8, TPRp_gA10, TPRp_gA11, TPRp_gA15, TPRp_gA16, TPRp_gA17, TPRp_gA18, TPRp_gA19, TPRp_gA20, TPRp_gA21, TPRp_gA22, TPRp_gA23, TPRp_gA24, TPRp_gA25, TPRp_gA26, TPRp_gA29, TPRp_gA30, TPRp_gA31, TPRp_gA33, TPRp_gA34, TPRp_gA35, TPRp_gA36, TPRp_gA37, TPRp_sF7, TPRp_sF9, WNp_sL, WNp_sF0, WNp_sF3, WNp_sF10, WNp_sF11, WNp_sF12, WNp_sF13, WNp_sF14, WNp_sF16, WNp_sF17, WNp_sF18, WNp_sF19, WNp_sF21, WNp_sF22, WNp_sF23, WNp_sF24, WNp_sF25, WNp_sF28, WNp_sF29, WNp_sF30, WNp_sF31, WNp_sF32, WNp_sF33, WNp_sF39, WNp_sF41, WNp_sF42, WNp_sF43, WNp_sF44, WNp_sF45, WNp_sF60, WNp_sF65, WNp_sF66, WNp_sF67, WNp_sF68, WNp_sF70, WNp_sF71, WNp_sF72, WNp_sF73, WNp_sF74, WNp_sF80, WNp_sF81, WNp_sF82, WNp_sF83, WNp_sF88, WNp_sF92, WNp_sF94, WNp_sF96, WNp_sF97, WNp_sF98, WNp_sF99, WNp_sF100, WNp_sF101, WNp_sF103, WNp_sF104, WNp_sF112, WNp_sF113, WNp_sF118, WNp_sF119, WNp_sF122, WNp_sF123, WNp_sF135, WNp_sF137, WNp_sA1, WNp_sA2, WNp_sA5, WNp_sA20, WNp_sA26, WNp_sA27, WNp_sA40, WNp_sA46, WNp_sA47, WNp_sA48, WNp_sA49, WNp_sA50, WNp_sA51, WNp_sA52, WNp_sA53, WNp_sA54, WNp_sA55, WNp_sA56, WNp_sA57, WNp_sA58, WNp_sA59, WNp_sA61, WNp_sA62, WNp_sA63, WNp_sA64, WNp_sA69, WNp_sA75, WNp_sA76, WNp_sA77, WNp_sA78, WNp_sA79, WNp_sA84, WNp_sA85, WNp_sA86, WNp_sA87, WNp_sA89, WNp_sA90, WNp_sA91, WNp_sA93, WNp_sA102, WNp_sA105, WNp_sA106, WNp_sA107, WNp_sA108, WNp_sA109, WNp_sA110, WNp_sA111, WNp_sA114, WNp_sA115, WNp_sA116, WNp_sA117, WNp_sA120, WNp_sA121, WNp_sA124, WNp_sA125, WNp_sA126, WNp_sA127, WNp_sA128, WNp_sA129, WNp_sA136, WNp_sA138, WNp_gA0, WNp_gA1, WNp_gA2, WNp_gA3, WNp_gA4, WNp_gA5, WNp_gA6, WNp_gA8, WNp_gA10, WNp_gA11, WNp_gA15, WNp_gA16, WNp_gA17, WNp_gA18, WNp_gA19, WNp_gA20, WNp_gA21, WNp_gA22, WNp_gA23, WNp_gA24, WNp_gA25, WNp_gA26, WNp_gA27, WNp_gA29, WNp_gA30, WNp_gA31, WNp_gA33, WNp_sF7, WNp_sF9] at *
  (repeat' (first | with_reducible intro _ | with_reducible apply And.intro))
  all_goals (first | assumption | omega | grind (splits := 20) [rNM_sF0])
set_option maxHeartbeats 400000 in
theorem vX14_readBytes_70m (σ : rS) (x1 : Int) (hwf : rWF σ) (hx1 : rng x1) (hp : pre_X14_readBytes σ x1) : VC_X14_readBytes_70m σ x1 := by
  simp only [VC_X14_readBytes_70m, pre_X14_readBytes, post_X14_readBytes, inv_X14_readBytes_70, inv_X14_readBytes_130, inv_X14_readBytes_170, mu_X14_readBytes_70, mu_X14_readBytes_130, mu_X14_readBytes_170, pre_X14_place, pre_X14_bad, pre_X14_note, pre_X14_here, post_X14_place, post_X14_bad, post_X14_note, post_X14_here, rng, rfk, rNMp, rF_sF, rF_sA, rF_sL, rF_sR, rA_sA, rA_sF, rA_sL, rA_sR, rR_sF, rR_sA, rR_sL, rR_sR, reduceIte, and_true, true_and, and_false, false_and, and_self, TPRp_sL, TPRp_sF0, TPRp_sF3, TPRp_sF10, TPRp_sF11, TPRp_sF12, TPRp_sF13, TPRp_sF14, TPRp_sF16, TPRp_sF17, TPRp_sF18, TPRp_sF19, TPRp_sF21, TPRp_sF22, TPRp_sF23, TPRp_sF24, TPRp_sF25, TPRp_sF29, TPRp_sF31, TPRp_sF32, TPRp_sF33, TPRp_sF38, TPRp_sF39, TPRp_sF41, TPRp_sF42, TPRp_sF43, TPRp_sF44, TPRp_sF45, TPRp_sF60, TPRp_sF65, TPRp_sF66, TPRp_sF67, TPRp_sF68, TPRp_sF70, TPRp_sF71, TPRp_sF72, TPRp_sF73, TPRp_sF74, TPRp_sF80, TPRp_sF81, TPRp_sF82, TPRp_sF83, TPRp_sF88, TPRp_sF92, TPRp_sF94, TPRp_sF96, TPRp_sF97, TPRp_sF98, TPRp_sF99, TPRp_sF100, TPRp_sF101, TPRp_sF103, TPRp_sF104, TPRp_sF112, TPRp_sF113, TPRp_sF118, TPRp_sF119, TPRp_sF122, TPRp_sF123, TPRp_sF135, TPRp_sF137, TPRp_sA1, TPRp_sA2, TPRp_sA5, TPRp_sA20, TPRp_sA26, TPRp_sA34, TPRp_sA35, TPRp_sA36, TPRp_sA37, TPRp_sA40, TPRp_sA46, TPRp_sA47, TPRp_sA48, TPRp_sA49, TPRp_sA50, TPRp_sA51, TPRp_sA52, TPRp_sA53, TPRp_sA54, TPRp_sA55, TPRp_sA56, TPRp_sA57, TPRp_sA58, TPRp_sA59, TPRp_sA61, TPRp_sA62, TPRp_sA63, TPRp_sA64, TPRp_sA69, TPRp_sA75, TPRp_sA76, TPRp_sA77, TPRp_sA78, TPRp_sA79, TPRp_sA84, TPRp_sA85, TPRp_sA86, TPRp_sA87, TPRp_sA89, TPRp_sA90, TPRp_sA91, TPRp_sA93, TPRp_sA102, TPRp_sA105, TPRp_sA106, TPRp_sA107, TPRp_sA108, TPRp_sA109, TPRp_sA110, TPRp_sA111, TPRp_sA114, TPRp_sA115, TPRp_sA116, TPRp_sA117, TPRp_sA120, TPRp_sA121, TPRp_sA124, TPRp_sA125, TPRp_sA126, TPRp_sA127, TPRp_sA128, TPRp_sA129, TPRp_sA136, TPRp_sA138, TPRp_gA0, TPRp_gA1, TPRp_gA2, TPRp_gA3, TPRp_gA4, TPRp_gA5, TPRp_gA6, TPRp_gA8, TPRp_gA10, TPRp_gA11, TPRp_gA15, TPRp_gA16, TPRp_gA17, TPRp_gA18, TPRp_gA19, TPRp_gA20, TPRp_gA21, TPRp_gA22, TPRp_gA23, TPRp_gA24, TPRp_gA25, TPRp_gA26, TPRp_gA29, TPRp_gA30, TPRp_gA31, TPRp_gA33, TPRp_gA34, TPRp_gA35, TPRp_gA36, TPRp_gA37, TPRp_sF7, TPRp_sF9, WNp_sL, WNp_sF0, WNp_sF3, WNp_sF10, WNp_sF11, WNp_sF12, WNp_sF13, WNp_sF14, WNp_sF16, WNp_sF17, WNp_sF18, WNp_sF19, WNp_sF21, WNp_sF22, WNp_sF23, WNp_sF24, WNp_sF25, WNp_sF28, WNp_sF29, WNp_sF30, WNp_sF31, WNp_sF32, WNp_sF33, WNp_sF39, WNp_sF41, WNp_sF42, WNp_sF43, WNp_sF44, WNp_sF45, WNp_sF60, WNp_sF65, WNp_sF66, WNp_sF67, WNp_sF68, WNp_sF70, WNp_sF71, WNp_sF72, WNp_sF73, WNp_sF74, WNp_sF80, WNp_sF81, WNp_sF82, WNp_sF83, WNp_sF88, WNp_sF92, WNp_sF94, WNp_sF96, WNp_sF97, WNp_sF98, WNp_sF99, WNp_sF100, WNp_sF101, WNp_sF103, WNp_sF104, WNp_sF112, WNp_sF113, WNp_sF118, WNp_sF119, WNp_sF122, WNp_sF123, WNp_sF135, WNp_sF137, WNp_sA1, WNp_sA2, WNp_sA5, WNp_sA20, WNp_sA26, WNp_sA27, WNp_sA40, WNp_sA46, WNp_sA47, WNp_sA48, WNp_sA49, WNp_sA50, WNp_sA51, WNp_sA52, WNp_sA53, WNp_sA54, WNp_sA55, WNp_sA56, WNp_sA57, WNp_sA58, WNp_sA59, WNp_sA61, WNp_sA62, WNp_sA63, WNp_sA64, WNp_sA69, WNp_sA75, WNp_sA76, WNp_sA77, WNp_sA78, WNp_sA79, WNp_sA84, WNp_sA85, WNp_sA86, WNp_sA87, WNp_sA89, WNp_sA90, WNp_sA91, WNp_sA93, WNp_sA102, WNp_sA105, WNp_sA106, WNp_sA107, WNp_sA108, WNp_sA109, WNp_sA110, WNp_sA111, WNp_sA114, WNp_sA115, WNp_sA116, WNp_sA117, WNp_sA120, WNp_sA121, WNp_sA124, WNp_sA125, WNp_sA126, WNp_sA127, WNp_sA128, WNp_sA129, WNp_sA136, WNp_sA138, WNp_gA0, WNp_gA1, WNp_gA2, WNp_gA3, WNp_gA4, WNp_gA5, WNp_gA6, WNp_gA8, WNp_gA10, WNp_gA11, WNp_gA15, WNp_gA16, WNp_gA17, WNp_gA18, WNp_gA19, WNp_gA20, WNp_gA21, WNp_gA22, WNp_gA23, WNp_gA24, WNp_gA25, WNp_gA26, WNp_gA27, WNp_gA29, WNp_gA30, WNp_gA31, WNp_gA33, WNp_sF7, WNp_sF9] at *
  (repeat' (first | with_reducible intro _ | with_reducible apply And.intro))
  all_goals (first | assumption | omega | grind (splits := 20) [rNM_sF0])
theorem wX14_readBytes (l : Launch) (G : zG) (κ : Nat → Nat) (σ : rS) (x1 : Int) (hwf : rWF σ) (hx1 : rng x1) (Q : rS → Prop) (h : VC_X14_readBytes σ x1 Q) (h_170 : VC_X14_readBytes_170 σ x1 Q) (h_170m : VC_X14_readBytes_170m σ x1) (h_130 : VC_X14_readBytes_130 σ x1 Q) (h_130m : VC_X14_readBytes_130m σ x1) (h_70 : VC_X14_readBytes_70 σ x1 Q) (h_70m : VC_X14_readBytes_70m σ x1) : rMv l G κ yX14_readBytes cX14_readBytes 3 2 23 [.ref (κ 0), iv x1] σ (fun s => rKeep 0x4020001c00 0 0x3c00000000 0 0 σ s ∧ Q s) := by
  refine zMv.intro (by decide +kernel) (Nat.le_of_ble_eq_true rfl) (fun X hC hR => ?_)
  refine z_aload_n hC (pc := 0) 0 dX14_readBytes_0 rfl rfl ?_
  refine y_get hC (pc := 1) zf14 rOb_0 29 (v := iv (rF σ 0 29)) dX14_readBytes_1 zw2496 (rv_i (Or.inl rfl) rfl) (kk := ?_)
  have h := h (hwf.f _ _)
  refine z_iconst hC (pc := 4) (v := Int32.ofInt 1) dX14_readBytes_4 (by decide) ?_
  refine y_iadd hC (pc := 5) (v := ((rF σ 0 29) + 1)) dX14_readBytes_5 rfl ?_
  refine z_aload_n hC (pc := 6) 0 dX14_readBytes_6 rfl rfl ?_
  refine y_get hC (pc := 7) zf14 rOb_0 28 (v := iv (rF σ 0 28)) dX14_readBytes_7 zw2495 (rv_i (Or.inl rfl) rfl) (kk := ?_)
  have h := h (hwf.f _ _)
  have j170 : ∀ (d170 : Nat), ∀ (s10 : rS) , rWF s10 → rKeep 0x4020001c00 0 0x3c00000000 0 0 σ s10 → inv_X14_readBytes_170 σ x1 s10 → (mu_X14_readBytes_170 σ x1 s10 ) ≤ d170 → zS X G 3 (rW G κ s10) [(0, .ref (κ 0)), (1, iv x1)] 0 0 170 [] := by
    intro d170
    induction d170 with
    | zero =>
      intro s10 Ws10 kJ hI hmu
      exact absurd hmu (by have := h_170m  s10  Ws10  (TPRp.keep kJ rfl rfl rfl) (kJ.F rfl) (kJ.F rfl) (fun i => kJ.A (f := 26) (by decide) rfl) hI; omega)
    | succ d170 ih170 =>
      intro s10 Ws10 kJ hI hmu170
      have h := h_170  s10  Ws10  (TPRp.keep kJ rfl rfl rfl) (kJ.F rfl) (kJ.F rfl) (fun i => kJ.A (f := 26) (by decide) rfl) hI
      refine z_aload_n hC (pc := 170) 0 dX14_readBytes_170 rfl rfl ?_
      obtain ⟨p11, h⟩ := h
      refine y_callVi hC (pc := 171) (As := []) (kX14_here l G κ s10  Ws10  p11) dmX14_here zf14 rOb_0 dX14_readBytes_171 zw3099 rfl rfl (Nat.le_of_ble_eq_true rfl) (Nat.le_of_ble_eq_true rfl) (Nat.le_of_ble_eq_true rfl) (Nat.le_of_ble_eq_true rfl) (Nat.le_of_ble_eq_true rfl) (kk := fun x13 s12 hx13 Ws12 qs12 => ?_)
      obtain ⟨es12, qs12⟩ := qs12
      have es12 := es12.symm
      subst es12
      have h := h x13 hx13 qs12
      refine z_bipush hC (pc := 174) (v := Int32.ofInt 92) dX14_readBytes_174 (by decide) ?_
      obtain ⟨hT, hF⟩ := h
      refine y_icmp_ne hC (pc := 176) 272 hx13 (r_lit rfl) dX14_readBytes_176 (by decide) (fun c => ?_) (fun c => ?_)
      · have h := hT c
        refine z_aload_n hC (pc := 272) 0 dX14_readBytes_272 rfl rfl ?_
        obtain ⟨p14, h⟩ := h
        refine y_callVi hC (pc := 273) (As := []) (kX14_here l G κ s10  Ws10  p14) dmX14_here zf14 rOb_0 dX14_readBytes_273 zw3099 rfl rfl (Nat.le_of_ble_eq_true rfl) (Nat.le_of_ble_eq_true rfl) (Nat.le_of_ble_eq_true rfl) (Nat.le_of_ble_eq_true rfl) (Nat.le_of_ble_eq_true rfl) (kk := fun x16 s15 hx16 Ws15 qs15 => ?_)
        obtain ⟨es15, qs15⟩ := qs15
        have es15 := es15.symm
        subst es15
        have h := h x16 hx16 qs15
        refine z_aload_n hC (pc := 276) 0 dX14_readBytes_276 rfl rfl ?_
        refine y_get hC (pc := 277) zf14 rOb_0 19 (v := iv (rF s10 0 19)) dX14_readBytes_277 zw2486 (rv_i (Or.inl rfl) rfl) (kk := ?_)
        have h := h (Ws10.f _ _)
        obtain ⟨hT, hF⟩ := h
        refine y_icmp_ne hC (pc := 280) 296 hx16 (Ws10.f _ _) dX14_readBytes_280 (by decide) (fun c => ?_) (fun c => ?_)
        · have h := hT c
          refine z_aload_n hC (pc := 296) 0 dX14_readBytes_296 rfl rfl ?_
          refine z_iconst hC (pc := 297) (v := Int32.ofInt 1) dX14_readBytes_297 (by decide) ?_
          refine z_aload_n hC (pc := 298) 0 dX14_readBytes_298 rfl rfl ?_
          obtain ⟨p17, h⟩ := h
          refine y_callVi hC (pc := 299) (As := []) (kX14_place l G κ s10  Ws10  p17) dmX14_place zf14 rOb_0 dX14_readBytes_299 zw3103 rfl rfl (Nat.le_of_ble_eq_true rfl) (Nat.le_of_ble_eq_true rfl) (Nat.le_of_ble_eq_true rfl) (Nat.le_of_ble_eq_true rfl) (Nat.le_of_ble_eq_true rfl) (kk := fun x19 s18 hx19 Ws18 qs18 => ?_)
          obtain ⟨es18, qs18⟩ := qs18
          have es18 := es18.symm
          subst es18
          have h := h x19 hx19 qs18
          obtain ⟨p20, h⟩ := h
          refine y_callVv hC (pc := 302) (As := [iv 1, iv x19]) (kX14_bad l G κ s10 1 x19 Ws10 (r_lit rfl) hx19 p20) dmX14_bad zf14 rOb_0 dX14_readBytes_302 zw3000 rfl rfl (Nat.le_of_ble_eq_true rfl) (Nat.le_of_ble_eq_true rfl) (Nat.le_of_ble_eq_true rfl) (Nat.le_of_ble_eq_true rfl) (Nat.le_of_ble_eq_true rfl) (kk := fun s21 Ws21 qs21 => ?_)
          have h := h s21 Ws21 (TPRp.keep qs21.1 rfl rfl rfl) (WNp.keep qs21.1 rfl rfl rfl rfl rfl) (qs21.1.F rfl) (qs21.1.F rfl) (qs21.1.F rfl) (qs21.1.F rfl) (fun i => qs21.1.A (f := 26) (by decide) rfl) qs21.2
          exact y_retv hR dX14_readBytes_305 Ws21 (Nat.le_of_ble_eq_true rfl) (Nat.le_of_ble_eq_true rfl) ⟨(rKeep.tr (rKeep.tr rKeep.rf kJ rfl rfl rfl rfl rfl) qs21.1 rfl rfl rfl rfl rfl), h⟩
        · have h := hF c
          refine z_aload_n hC (pc := 283) 0 dX14_readBytes_283 rfl rfl ?_
          refine z_dup hC (pc := 284) dX14_readBytes_284 rfl ?_
          refine y_get hC (pc := 285) zf14 rOb_0 29 (v := iv (rF s10 0 29)) dX14_readBytes_285 zw2496 (rv_i (Or.inl rfl) rfl) (kk := ?_)
          have h := h (Ws10.f _ _)
          refine z_iconst hC (pc := 288) (v := Int32.ofInt 1) dX14_readBytes_288 (by decide) ?_
          refine y_iadd hC (pc := 289) (v := ((rF s10 0 29) + 1)) dX14_readBytes_289 rfl ?_
          obtain ⟨r23, h⟩ := h
          refine y_putI hC (pc := 290) zf14 rOb_0 29 (x := ((rF s10 0 29) + 1)) dX14_readBytes_290 zw2496 (Or.inl rfl) rfl rfl (kk := ?_)
          have W24 := Ws10.sF (q := 0) (f := 29) (x := ((rF s10 0 29) + 1)) r23
          refine z_goto hC (pc := 293) 305 dX14_readBytes_293 (by decide) ?_
          exact y_retv hR dX14_readBytes_305 W24 (Nat.le_of_ble_eq_true rfl) (Nat.le_of_ble_eq_true rfl) ⟨(rKeep.tr (rKeep.tr rKeep.rf kJ rfl rfl rfl rfl rfl) (rKeep.sF0 (f := 29)) rfl rfl rfl rfl rfl), h⟩
      · have h := hF c
        refine z_aload_n hC (pc := 179) 0 dX14_readBytes_179 rfl rfl ?_
        refine y_get hC (pc := 180) zf14 rOb_0 10 (v := iv (rF s10 0 10)) dX14_readBytes_180 zw2478 (rv_i (Or.inl rfl) rfl) (kk := ?_)
        have h := h (Ws10.f _ _)
        obtain ⟨hT, hF⟩ := h
        refine y_if_ne hC (pc := 183) 272 (Ws10.f _ _) dX14_readBytes_183 (by decide) (fun c => ?_) (fun c => ?_)
        · have h := hT c
          refine z_aload_n hC (pc := 272) 0 dX14_readBytes_272 rfl rfl ?_
          obtain ⟨p25, h⟩ := h
          refine y_callVi hC (pc := 273) (As := []) (kX14_here l G κ s10  Ws10  p25) dmX14_here zf14 rOb_0 dX14_readBytes_273 zw3099 rfl rfl (Nat.le_of_ble_eq_true rfl) (Nat.le_of_ble_eq_true rfl) (Nat.le_of_ble_eq_true rfl) (Nat.le_of_ble_eq_true rfl) (Nat.le_of_ble_eq_true rfl) (kk := fun x27 s26 hx27 Ws26 qs26 => ?_)
          obtain ⟨es26, qs26⟩ := qs26
          have es26 := es26.symm
          subst es26
          have h := h x27 hx27 qs26
          refine z_aload_n hC (pc := 276) 0 dX14_readBytes_276 rfl rfl ?_
          refine y_get hC (pc := 277) zf14 rOb_0 19 (v := iv (rF s10 0 19)) dX14_readBytes_277 zw2486 (rv_i (Or.inl rfl) rfl) (kk := ?_)
          have h := h (Ws10.f _ _)
          obtain ⟨hT, hF⟩ := h
          refine y_icmp_ne hC (pc := 280) 296 hx27 (Ws10.f _ _) dX14_readBytes_280 (by decide) (fun c => ?_) (fun c => ?_)
          · have h := hT c
            refine z_aload_n hC (pc := 296) 0 dX14_readBytes_296 rfl rfl ?_
            refine z_iconst hC (pc := 297) (v := Int32.ofInt 1) dX14_readBytes_297 (by decide) ?_
            refine z_aload_n hC (pc := 298) 0 dX14_readBytes_298 rfl rfl ?_
            obtain ⟨p28, h⟩ := h
            refine y_callVi hC (pc := 299) (As := []) (kX14_place l G κ s10  Ws10  p28) dmX14_place zf14 rOb_0 dX14_readBytes_299 zw3103 rfl rfl (Nat.le_of_ble_eq_true rfl) (Nat.le_of_ble_eq_true rfl) (Nat.le_of_ble_eq_true rfl) (Nat.le_of_ble_eq_true rfl) (Nat.le_of_ble_eq_true rfl) (kk := fun x30 s29 hx30 Ws29 qs29 => ?_)
            obtain ⟨es29, qs29⟩ := qs29
            have es29 := es29.symm
            subst es29
            have h := h x30 hx30 qs29
            obtain ⟨p31, h⟩ := h
            refine y_callVv hC (pc := 302) (As := [iv 1, iv x30]) (kX14_bad l G κ s10 1 x30 Ws10 (r_lit rfl) hx30 p31) dmX14_bad zf14 rOb_0 dX14_readBytes_302 zw3000 rfl rfl (Nat.le_of_ble_eq_true rfl) (Nat.le_of_ble_eq_true rfl) (Nat.le_of_ble_eq_true rfl) (Nat.le_of_ble_eq_true rfl) (Nat.le_of_ble_eq_true rfl) (kk := fun s32 Ws32 qs32 => ?_)
            have h := h s32 Ws32 (TPRp.keep qs32.1 rfl rfl rfl) (WNp.keep qs32.1 rfl rfl rfl rfl rfl) (qs32.1.F rfl) (qs32.1.F rfl) (qs32.1.F rfl) (qs32.1.F rfl) (fun i => qs32.1.A (f := 26) (by decide) rfl) qs32.2
            exact y_retv hR dX14_readBytes_305 Ws32 (Nat.le_of_ble_eq_true rfl) (Nat.le_of_ble_eq_true rfl) ⟨(rKeep.tr (rKeep.tr rKeep.rf kJ rfl rfl rfl rfl rfl) qs32.1 rfl rfl rfl rfl rfl), h⟩
          · have h := hF c
            refine z_aload_n hC (pc := 283) 0 dX14_readBytes_283 rfl rfl ?_
            refine z_dup hC (pc := 284) dX14_readBytes_284 rfl ?_
            refine y_get hC (pc := 285) zf14 rOb_0 29 (v := iv (rF s10 0 29)) dX14_readBytes_285 zw2496 (rv_i (Or.inl rfl) rfl) (kk := ?_)
            have h := h (Ws10.f _ _)
            refine z_iconst hC (pc := 288) (v := Int32.ofInt 1) dX14_readBytes_288 (by decide) ?_
            refine y_iadd hC (pc := 289) (v := ((rF s10 0 29) + 1)) dX14_readBytes_289 rfl ?_
            obtain ⟨r34, h⟩ := h
            refine y_putI hC (pc := 290) zf14 rOb_0 29 (x := ((rF s10 0 29) + 1)) dX14_readBytes_290 zw2496 (Or.inl rfl) rfl rfl (kk := ?_)
            have W35 := Ws10.sF (q := 0) (f := 29) (x := ((rF s10 0 29) + 1)) r34
            refine z_goto hC (pc := 293) 305 dX14_readBytes_293 (by decide) ?_
            exact y_retv hR dX14_readBytes_305 W35 (Nat.le_of_ble_eq_true rfl) (Nat.le_of_ble_eq_true rfl) ⟨(rKeep.tr (rKeep.tr rKeep.rf kJ rfl rfl rfl rfl rfl) (rKeep.sF0 (f := 29)) rfl rfl rfl rfl rfl), h⟩
        · have h := hF c
          refine z_aload_n hC (pc := 186) 0 dX14_readBytes_186 rfl rfl ?_
          refine z_dup hC (pc := 187) dX14_readBytes_187 rfl ?_
          refine y_get hC (pc := 188) zf14 rOb_0 29 (v := iv (rF s10 0 29)) dX14_readBytes_188 zw2496 (rv_i (Or.inl rfl) rfl) (kk := ?_)
          have h := h (Ws10.f _ _)
          refine z_iconst hC (pc := 191) (v := Int32.ofInt 1) dX14_readBytes_191 (by decide) ?_
          refine y_iadd hC (pc := 192) (v := ((rF s10 0 29) + 1)) dX14_readBytes_192 rfl ?_
          obtain ⟨r36, h⟩ := h
          refine y_putI hC (pc := 193) zf14 rOb_0 29 (x := ((rF s10 0 29) + 1)) dX14_readBytes_193 zw2496 (Or.inl rfl) rfl rfl (kk := ?_)
          have W37 := Ws10.sF (q := 0) (f := 29) (x := ((rF s10 0 29) + 1)) r36
          refine z_aload_n hC (pc := 196) 0 dX14_readBytes_196 rfl rfl ?_
          obtain ⟨p38, h⟩ := h
          refine y_callVi hC (pc := 197) (As := []) (kX14_here l G κ (sF s10 0 29 ((rF s10 0 29) + 1))  W37  p38) dmX14_here zf14 rOb_0 dX14_readBytes_197 zw3099 rfl rfl (Nat.le_of_ble_eq_true rfl) (Nat.le_of_ble_eq_true rfl) (Nat.le_of_ble_eq_true rfl) (Nat.le_of_ble_eq_true rfl) (Nat.le_of_ble_eq_true rfl) (kk := fun x40 s39 hx40 Ws39 qs39 => ?_)
          obtain ⟨es39, qs39⟩ := qs39
          have es39 := es39.symm
          subst es39
          have h := h x40 hx40 qs39
          refine z_istore_n hC (pc := 200) (lv' := [(2, iv x40), (0, .ref (κ 0)), (1, iv x1)]) dX14_readBytes_200 rfl (by decide) rfl ?_
          refine z_iload_n hC (pc := 201) 0 dX14_readBytes_201 rfl rfl ?_
          refine z_bipush hC (pc := 202) (v := Int32.ofInt 110) dX14_readBytes_202 (by decide) ?_
          obtain ⟨hT, hF⟩ := h
          refine y_icmp_eq hC (pc := 204) 229 hx40 (r_lit rfl) dX14_readBytes_204 (by decide) (fun c => ?_) (fun c => ?_)
          · have h := hT c
            refine z_aload_n hC (pc := 229) 1 dX14_readBytes_229 rfl rfl ?_
            refine z_iconst hC (pc := 230) (v := Int32.ofInt 3) dX14_readBytes_230 (by decide) ?_
            refine z_iload_n hC (pc := 231) 0 dX14_readBytes_231 rfl rfl ?_
            refine z_bipush hC (pc := 232) (v := Int32.ofInt 110) dX14_readBytes_232 (by decide) ?_
            obtain ⟨hT, hF⟩ := h
            refine y_icmp_ne hC (pc := 234) 242 hx40 (r_lit rfl) dX14_readBytes_234 (by decide) (fun c => ?_) (fun c => ?_)
            · have h := hT c
              refine z_iload_n hC (pc := 242) 0 dX14_readBytes_242 rfl rfl ?_
              refine z_bipush hC (pc := 243) (v := Int32.ofInt 116) dX14_readBytes_243 (by decide) ?_
              obtain ⟨hT, hF⟩ := h
              refine y_icmp_ne hC (pc := 245) 253 hx40 (r_lit rfl) dX14_readBytes_245 (by decide) (fun c => ?_) (fun c => ?_)
              · have h := hT c
                refine z_bipush hC (pc := 253) (v := Int32.ofInt 32) dX14_readBytes_253 (by decide) ?_
                refine z_iload_n hC (pc := 255) 2 dX14_readBytes_255 rfl rfl ?_
                obtain ⟨p41, h⟩ := h
                refine y_callVv hC (pc := 256) (As := [iv 3, iv 32, iv x1]) (kX14_note l G κ (sF s10 0 29 ((rF s10 0 29) + 1)) 3 32 x1 W37 (r_lit rfl) (r_lit rfl) hx1 p41) dmX14_note zf14 rOb_0 dX14_readBytes_256 zw3111 rfl rfl (Nat.le_of_ble_eq_true rfl) (Nat.le_of_ble_eq_true rfl) (Nat.le_of_ble_eq_true rfl) (Nat.le_of_ble_eq_true rfl) (Nat.le_of_ble_eq_true rfl) (kk := fun s42 Ws42 qs42 => ?_)
                have h := h s42 Ws42 (TPRp.keep qs42.1 rfl rfl rfl) (qs42.1.F rfl) (qs42.1.F rfl) (qs42.1.F rfl) (qs42.1.F rfl) (fun i => qs42.1.A (f := 26) (by decide) rfl) qs42.2
                refine z_aload_n hC (pc := 259) 1 dX14_readBytes_259 rfl rfl ?_
                refine z_dup hC (pc := 260) dX14_readBytes_260 rfl ?_
                refine y_get hC (pc := 261) zf14 rOb_0 29 (v := iv ((rF s10 0 29) + 1)) dX14_readBytes_261 zw2496 (rv_i (Or.inl rfl) ((qs42.1.F rfl).trans (F_sF _ _ _ _))) (kk := ?_)
                refine z_iconst hC (pc := 264) (v := Int32.ofInt 1) dX14_readBytes_264 (by decide) ?_
                refine y_iadd hC (pc := 265) (v := (((rF s10 0 29) + 1) + 1)) dX14_readBytes_265 rfl ?_
                obtain ⟨r44, h⟩ := h
                refine y_putI hC (pc := 266) zf14 rOb_0 29 (x := (((rF s10 0 29) + 1) + 1)) dX14_readBytes_266 zw2496 (Or.inl rfl) rfl rfl (kk := ?_)
                have W45 := Ws42.sF (q := 0) (f := 29) (x := (((rF s10 0 29) + 1) + 1)) r44
                refine z_goto hC (pc := 269) 170 dX14_readBytes_269 (by decide) ?_
                refine z_lvs [1, 2] rfl ?_
                obtain ⟨hI, hm⟩ := h
                exact ih170 (sF s42 0 29 (((rF s10 0 29) + 1) + 1))  W45  (rKeep.tr (rKeep.tr (rKeep.tr (rKeep.tr rKeep.rf kJ rfl rfl rfl rfl rfl) (rKeep.sF0 (f := 29)) rfl rfl rfl rfl rfl) qs42.1 rfl rfl rfl rfl rfl) (rKeep.sF0 (f := 29)) rfl rfl rfl rfl rfl) hI (by omega)
              · have h := hF c
                refine z_bipush hC (pc := 248) (v := Int32.ofInt 9) dX14_readBytes_248 (by decide) ?_
                refine z_goto hC (pc := 250) 255 dX14_readBytes_250 (by decide) ?_
                refine z_iload_n hC (pc := 255) 2 dX14_readBytes_255 rfl rfl ?_
                obtain ⟨p46, h⟩ := h
                refine y_callVv hC (pc := 256) (As := [iv 3, iv 9, iv x1]) (kX14_note l G κ (sF s10 0 29 ((rF s10 0 29) + 1)) 3 9 x1 W37 (r_lit rfl) (r_lit rfl) hx1 p46) dmX14_note zf14 rOb_0 dX14_readBytes_256 zw3111 rfl rfl (Nat.le_of_ble_eq_true rfl) (Nat.le_of_ble_eq_true rfl) (Nat.le_of_ble_eq_true rfl) (Nat.le_of_ble_eq_true rfl) (Nat.le_of_ble_eq_true rfl) (kk := fun s47 Ws47 qs47 => ?_)
                have h := h s47 Ws47 (TPRp.keep qs47.1 rfl rfl rfl) (qs47.1.F rfl) (qs47.1.F rfl) (qs47.1.F rfl) (qs47.1.F rfl) (fun i => qs47.1.A (f := 26) (by decide) rfl) qs47.2
                refine z_aload_n hC (pc := 259) 1 dX14_readBytes_259 rfl rfl ?_
                refine z_dup hC (pc := 260) dX14_readBytes_260 rfl ?_
                refine y_get hC (pc := 261) zf14 rOb_0 29 (v := iv ((rF s10 0 29) + 1)) dX14_readBytes_261 zw2496 (rv_i (Or.inl rfl) ((qs47.1.F rfl).trans (F_sF _ _ _ _))) (kk := ?_)
                refine z_iconst hC (pc := 264) (v := Int32.ofInt 1) dX14_readBytes_264 (by decide) ?_
                refine y_iadd hC (pc := 265) (v := (((rF s10 0 29) + 1) + 1)) dX14_readBytes_265 rfl ?_
                obtain ⟨r49, h⟩ := h
                refine y_putI hC (pc := 266) zf14 rOb_0 29 (x := (((rF s10 0 29) + 1) + 1)) dX14_readBytes_266 zw2496 (Or.inl rfl) rfl rfl (kk := ?_)
                have W50 := Ws47.sF (q := 0) (f := 29) (x := (((rF s10 0 29) + 1) + 1)) r49
                refine z_goto hC (pc := 269) 170 dX14_readBytes_269 (by decide) ?_
                refine z_lvs [1, 2] rfl ?_
                obtain ⟨hI, hm⟩ := h
                exact ih170 (sF s47 0 29 (((rF s10 0 29) + 1) + 1))  W50  (rKeep.tr (rKeep.tr (rKeep.tr (rKeep.tr rKeep.rf kJ rfl rfl rfl rfl rfl) (rKeep.sF0 (f := 29)) rfl rfl rfl rfl rfl) qs47.1 rfl rfl rfl rfl rfl) (rKeep.sF0 (f := 29)) rfl rfl rfl rfl rfl) hI (by omega)
            · have h := hF c
              refine z_bipush hC (pc := 237) (v := Int32.ofInt 10) dX14_readBytes_237 (by decide) ?_
              refine z_goto hC (pc := 239) 255 dX14_readBytes_239 (by decide) ?_
              refine z_iload_n hC (pc := 255) 2 dX14_readBytes_255 rfl rfl ?_
              obtain ⟨p51, h⟩ := h
              refine y_callVv hC (pc := 256) (As := [iv 3, iv 10, iv x1]) (kX14_note l G κ (sF s10 0 29 ((rF s10 0 29) + 1)) 3 10 x1 W37 (r_lit rfl) (r_lit rfl) hx1 p51) dmX14_note zf14 rOb_0 dX14_readBytes_256 zw3111 rfl rfl (Nat.le_of_ble_eq_true rfl) (Nat.le_of_ble_eq_true rfl) (Nat.le_of_ble_eq_true rfl) (Nat.le_of_ble_eq_true rfl) (Nat.le_of_ble_eq_true rfl) (kk := fun s52 Ws52 qs52 => ?_)
              have h := h s52 Ws52 (TPRp.keep qs52.1 rfl rfl rfl) (qs52.1.F rfl) (qs52.1.F rfl) (qs52.1.F rfl) (qs52.1.F rfl) (fun i => qs52.1.A (f := 26) (by decide) rfl) qs52.2
              refine z_aload_n hC (pc := 259) 1 dX14_readBytes_259 rfl rfl ?_
              refine z_dup hC (pc := 260) dX14_readBytes_260 rfl ?_
              refine y_get hC (pc := 261) zf14 rOb_0 29 (v := iv ((rF s10 0 29) + 1)) dX14_readBytes_261 zw2496 (rv_i (Or.inl rfl) ((qs52.1.F rfl).trans (F_sF _ _ _ _))) (kk := ?_)
              refine z_iconst hC (pc := 264) (v := Int32.ofInt 1) dX14_readBytes_264 (by decide) ?_
              refine y_iadd hC (pc := 265) (v := (((rF s10 0 29) + 1) + 1)) dX14_readBytes_265 rfl ?_
              obtain ⟨r54, h⟩ := h
              refine y_putI hC (pc := 266) zf14 rOb_0 29 (x := (((rF s10 0 29) + 1) + 1)) dX14_readBytes_266 zw2496 (Or.inl rfl) rfl rfl (kk := ?_)
              have W55 := Ws52.sF (q := 0) (f := 29) (x := (((rF s10 0 29) + 1) + 1)) r54
              refine z_goto hC (pc := 269) 170 dX14_readBytes_269 (by decide) ?_
              refine z_lvs [1, 2] rfl ?_
              obtain ⟨hI, hm⟩ := h
              exact ih170 (sF s52 0 29 (((rF s10 0 29) + 1) + 1))  W55  (rKeep.tr (rKeep.tr (rKeep.tr (rKeep.tr rKeep.rf kJ rfl rfl rfl rfl rfl) (rKeep.sF0 (f := 29)) rfl rfl rfl rfl rfl) qs52.1 rfl rfl rfl rfl rfl) (rKeep.sF0 (f := 29)) rfl rfl rfl rfl rfl) hI (by omega)
          · have h := hF c
            refine z_iload_n hC (pc := 207) 0 dX14_readBytes_207 rfl rfl ?_
            refine z_bipush hC (pc := 208) (v := Int32.ofInt 116) dX14_readBytes_208 (by decide) ?_
            obtain ⟨hT, hF⟩ := h
            refine y_icmp_eq hC (pc := 210) 229 hx40 (r_lit rfl) dX14_readBytes_210 (by decide) (fun c => ?_) (fun c => ?_)
            · have h := hT c
              refine z_aload_n hC (pc := 229) 1 dX14_readBytes_229 rfl rfl ?_
              refine z_iconst hC (pc := 230) (v := Int32.ofInt 3) dX14_readBytes_230 (by decide) ?_
              refine z_iload_n hC (pc := 231) 0 dX14_readBytes_231 rfl rfl ?_
              refine z_bipush hC (pc := 232) (v := Int32.ofInt 110) dX14_readBytes_232 (by decide) ?_
              obtain ⟨hT, hF⟩ := h
              refine y_icmp_ne hC (pc := 234) 242 hx40 (r_lit rfl) dX14_readBytes_234 (by decide) (fun c => ?_) (fun c => ?_)
              · have h := hT c
                refine z_iload_n hC (pc := 242) 0 dX14_readBytes_242 rfl rfl ?_
                refine z_bipush hC (pc := 243) (v := Int32.ofInt 116) dX14_readBytes_243 (by decide) ?_
                obtain ⟨hT, hF⟩ := h
                refine y_icmp_ne hC (pc := 245) 253 hx40 (r_lit rfl) dX14_readBytes_245 (by decide) (fun c => ?_) (fun c => ?_)
                · have h := hT c
                  refine z_bipush hC (pc := 253) (v := Int32.ofInt 32) dX14_readBytes_253 (by decide) ?_
                  refine z_iload_n hC (pc := 255) 2 dX14_readBytes_255 rfl rfl ?_
                  obtain ⟨p56, h⟩ := h
                  refine y_callVv hC (pc := 256) (As := [iv 3, iv 32, iv x1]) (kX14_note l G κ (sF s10 0 29 ((rF s10 0 29) + 1)) 3 32 x1 W37 (r_lit rfl) (r_lit rfl) hx1 p56) dmX14_note zf14 rOb_0 dX14_readBytes_256 zw3111 rfl rfl (Nat.le_of_ble_eq_true rfl) (Nat.le_of_ble_eq_true rfl) (Nat.le_of_ble_eq_true rfl) (Nat.le_of_ble_eq_true rfl) (Nat.le_of_ble_eq_true rfl) (kk := fun s57 Ws57 qs57 => ?_)
                  have h := h s57 Ws57 (TPRp.keep qs57.1 rfl rfl rfl) (qs57.1.F rfl) (qs57.1.F rfl) (qs57.1.F rfl) (qs57.1.F rfl) (fun i => qs57.1.A (f := 26) (by decide) rfl) qs57.2
                  refine z_aload_n hC (pc := 259) 1 dX14_readBytes_259 rfl rfl ?_
                  refine z_dup hC (pc := 260) dX14_readBytes_260 rfl ?_
                  refine y_get hC (pc := 261) zf14 rOb_0 29 (v := iv ((rF s10 0 29) + 1)) dX14_readBytes_261 zw2496 (rv_i (Or.inl rfl) ((qs57.1.F rfl).trans (F_sF _ _ _ _))) (kk := ?_)
                  refine z_iconst hC (pc := 264) (v := Int32.ofInt 1) dX14_readBytes_264 (by decide) ?_
                  refine y_iadd hC (pc := 265) (v := (((rF s10 0 29) + 1) + 1)) dX14_readBytes_265 rfl ?_
                  obtain ⟨r59, h⟩ := h
                  refine y_putI hC (pc := 266) zf14 rOb_0 29 (x := (((rF s10 0 29) + 1) + 1)) dX14_readBytes_266 zw2496 (Or.inl rfl) rfl rfl (kk := ?_)
                  have W60 := Ws57.sF (q := 0) (f := 29) (x := (((rF s10 0 29) + 1) + 1)) r59
                  refine z_goto hC (pc := 269) 170 dX14_readBytes_269 (by decide) ?_
                  refine z_lvs [1, 2] rfl ?_
                  obtain ⟨hI, hm⟩ := h
                  exact ih170 (sF s57 0 29 (((rF s10 0 29) + 1) + 1))  W60  (rKeep.tr (rKeep.tr (rKeep.tr (rKeep.tr rKeep.rf kJ rfl rfl rfl rfl rfl) (rKeep.sF0 (f := 29)) rfl rfl rfl rfl rfl) qs57.1 rfl rfl rfl rfl rfl) (rKeep.sF0 (f := 29)) rfl rfl rfl rfl rfl) hI (by omega)
                · have h := hF c
                  refine z_bipush hC (pc := 248) (v := Int32.ofInt 9) dX14_readBytes_248 (by decide) ?_
                  refine z_goto hC (pc := 250) 255 dX14_readBytes_250 (by decide) ?_
                  refine z_iload_n hC (pc := 255) 2 dX14_readBytes_255 rfl rfl ?_
                  obtain ⟨p61, h⟩ := h
                  refine y_callVv hC (pc := 256) (As := [iv 3, iv 9, iv x1]) (kX14_note l G κ (sF s10 0 29 ((rF s10 0 29) + 1)) 3 9 x1 W37 (r_lit rfl) (r_lit rfl) hx1 p61) dmX14_note zf14 rOb_0 dX14_readBytes_256 zw3111 rfl rfl (Nat.le_of_ble_eq_true rfl) (Nat.le_of_ble_eq_true rfl) (Nat.le_of_ble_eq_true rfl) (Nat.le_of_ble_eq_true rfl) (Nat.le_of_ble_eq_true rfl) (kk := fun s62 Ws62 qs62 => ?_)
                  have h := h s62 Ws62 (TPRp.keep qs62.1 rfl rfl rfl) (qs62.1.F rfl) (qs62.1.F rfl) (qs62.1.F rfl) (qs62.1.F rfl) (fun i => qs62.1.A (f := 26) (by decide) rfl) qs62.2
                  refine z_aload_n hC (pc := 259) 1 dX14_readBytes_259 rfl rfl ?_
                  refine z_dup hC (pc := 260) dX14_readBytes_260 rfl ?_
                  refine y_get hC (pc := 261) zf14 rOb_0 29 (v := iv ((rF s10 0 29) + 1)) dX14_readBytes_261 zw2496 (rv_i (Or.inl rfl) ((qs62.1.F rfl).trans (F_sF _ _ _ _))) (kk := ?_)
                  refine z_iconst hC (pc := 264) (v := Int32.ofInt 1) dX14_readBytes_264 (by decide) ?_
                  refine y_iadd hC (pc := 265) (v := (((rF s10 0 29) + 1) + 1)) dX14_readBytes_265 rfl ?_
                  obtain ⟨r64, h⟩ := h
                  refine y_putI hC (pc := 266) zf14 rOb_0 29 (x := (((rF s10 0 29) + 1) + 1)) dX14_readBytes_266 zw2496 (Or.inl rfl) rfl rfl (kk := ?_)
                  have W65 := Ws62.sF (q := 0) (f := 29) (x := (((rF s10 0 29) + 1) + 1)) r64
                  refine z_goto hC (pc := 269) 170 dX14_readBytes_269 (by decide) ?_
                  refine z_lvs [1, 2] rfl ?_
                  obtain ⟨hI, hm⟩ := h
                  exact ih170 (sF s62 0 29 (((rF s10 0 29) + 1) + 1))  W65  (rKeep.tr (rKeep.tr (rKeep.tr (rKeep.tr rKeep.rf kJ rfl rfl rfl rfl rfl) (rKeep.sF0 (f := 29)) rfl rfl rfl rfl rfl) qs62.1 rfl rfl rfl rfl rfl) (rKeep.sF0 (f := 29)) rfl rfl rfl rfl rfl) hI (by omega)
              · have h := hF c
                refine z_bipush hC (pc := 237) (v := Int32.ofInt 10) dX14_readBytes_237 (by decide) ?_
                refine z_goto hC (pc := 239) 255 dX14_readBytes_239 (by decide) ?_
                refine z_iload_n hC (pc := 255) 2 dX14_readBytes_255 rfl rfl ?_
                obtain ⟨p66, h⟩ := h
                refine y_callVv hC (pc := 256) (As := [iv 3, iv 10, iv x1]) (kX14_note l G κ (sF s10 0 29 ((rF s10 0 29) + 1)) 3 10 x1 W37 (r_lit rfl) (r_lit rfl) hx1 p66) dmX14_note zf14 rOb_0 dX14_readBytes_256 zw3111 rfl rfl (Nat.le_of_ble_eq_true rfl) (Nat.le_of_ble_eq_true rfl) (Nat.le_of_ble_eq_true rfl) (Nat.le_of_ble_eq_true rfl) (Nat.le_of_ble_eq_true rfl) (kk := fun s67 Ws67 qs67 => ?_)
                have h := h s67 Ws67 (TPRp.keep qs67.1 rfl rfl rfl) (qs67.1.F rfl) (qs67.1.F rfl) (qs67.1.F rfl) (qs67.1.F rfl) (fun i => qs67.1.A (f := 26) (by decide) rfl) qs67.2
                refine z_aload_n hC (pc := 259) 1 dX14_readBytes_259 rfl rfl ?_
                refine z_dup hC (pc := 260) dX14_readBytes_260 rfl ?_
                refine y_get hC (pc := 261) zf14 rOb_0 29 (v := iv ((rF s10 0 29) + 1)) dX14_readBytes_261 zw2496 (rv_i (Or.inl rfl) ((qs67.1.F rfl).trans (F_sF _ _ _ _))) (kk := ?_)
                refine z_iconst hC (pc := 264) (v := Int32.ofInt 1) dX14_readBytes_264 (by decide) ?_
                refine y_iadd hC (pc := 265) (v := (((rF s10 0 29) + 1) + 1)) dX14_readBytes_265 rfl ?_
                obtain ⟨r69, h⟩ := h
                refine y_putI hC (pc := 266) zf14 rOb_0 29 (x := (((rF s10 0 29) + 1) + 1)) dX14_readBytes_266 zw2496 (Or.inl rfl) rfl rfl (kk := ?_)
                have W70 := Ws67.sF (q := 0) (f := 29) (x := (((rF s10 0 29) + 1) + 1)) r69
                refine z_goto hC (pc := 269) 170 dX14_readBytes_269 (by decide) ?_
                refine z_lvs [1, 2] rfl ?_
                obtain ⟨hI, hm⟩ := h
                exact ih170 (sF s67 0 29 (((rF s10 0 29) + 1) + 1))  W70  (rKeep.tr (rKeep.tr (rKeep.tr (rKeep.tr rKeep.rf kJ rfl rfl rfl rfl rfl) (rKeep.sF0 (f := 29)) rfl rfl rfl rfl rfl) qs67.1 rfl rfl rfl rfl rfl) (rKeep.sF0 (f := 29)) rfl rfl rfl rfl rfl) hI (by omega)
            · have h := hF c
              refine z_iload_n hC (pc := 213) 0 dX14_readBytes_213 rfl rfl ?_
              refine z_bipush hC (pc := 214) (v := Int32.ofInt 32) dX14_readBytes_214 (by decide) ?_
              obtain ⟨hT, hF⟩ := h
              refine y_icmp_eq hC (pc := 216) 229 hx40 (r_lit rfl) dX14_readBytes_216 (by decide) (fun c => ?_) (fun c => ?_)
              · have h := hT c
                refine z_aload_n hC (pc := 229) 1 dX14_readBytes_229 rfl rfl ?_
                refine z_iconst hC (pc := 230) (v := Int32.ofInt 3) dX14_readBytes_230 (by decide) ?_
                refine z_iload_n hC (pc := 231) 0 dX14_readBytes_231 rfl rfl ?_
                refine z_bipush hC (pc := 232) (v := Int32.ofInt 110) dX14_readBytes_232 (by decide) ?_
                obtain ⟨hT, hF⟩ := h
                refine y_icmp_ne hC (pc := 234) 242 hx40 (r_lit rfl) dX14_readBytes_234 (by decide) (fun c => ?_) (fun c => ?_)
                · have h := hT c
                  refine z_iload_n hC (pc := 242) 0 dX14_readBytes_242 rfl rfl ?_
                  refine z_bipush hC (pc := 243) (v := Int32.ofInt 116) dX14_readBytes_243 (by decide) ?_
                  obtain ⟨hT, hF⟩ := h
                  refine y_icmp_ne hC (pc := 245) 253 hx40 (r_lit rfl) dX14_readBytes_245 (by decide) (fun c => ?_) (fun c => ?_)
                  · have h := hT c
                    refine z_bipush hC (pc := 253) (v := Int32.ofInt 32) dX14_readBytes_253 (by decide) ?_
                    refine z_iload_n hC (pc := 255) 2 dX14_readBytes_255 rfl rfl ?_
                    obtain ⟨p71, h⟩ := h
                    refine y_callVv hC (pc := 256) (As := [iv 3, iv 32, iv x1]) (kX14_note l G κ (sF s10 0 29 ((rF s10 0 29) + 1)) 3 32 x1 W37 (r_lit rfl) (r_lit rfl) hx1 p71) dmX14_note zf14 rOb_0 dX14_readBytes_256 zw3111 rfl rfl (Nat.le_of_ble_eq_true rfl) (Nat.le_of_ble_eq_true rfl) (Nat.le_of_ble_eq_true rfl) (Nat.le_of_ble_eq_true rfl) (Nat.le_of_ble_eq_true rfl) (kk := fun s72 Ws72 qs72 => ?_)
                    have h := h s72 Ws72 (TPRp.keep qs72.1 rfl rfl rfl) (qs72.1.F rfl) (qs72.1.F rfl) (qs72.1.F rfl) (qs72.1.F rfl) (fun i => qs72.1.A (f := 26) (by decide) rfl) qs72.2
                    refine z_aload_n hC (pc := 259) 1 dX14_readBytes_259 rfl rfl ?_
                    refine z_dup hC (pc := 260) dX14_readBytes_260 rfl ?_
                    refine y_get hC (pc := 261) zf14 rOb_0 29 (v := iv ((rF s10 0 29) + 1)) dX14_readBytes_261 zw2496 (rv_i (Or.inl rfl) ((qs72.1.F rfl).trans (F_sF _ _ _ _))) (kk := ?_)
                    refine z_iconst hC (pc := 264) (v := Int32.ofInt 1) dX14_readBytes_264 (by decide) ?_
                    refine y_iadd hC (pc := 265) (v := (((rF s10 0 29) + 1) + 1)) dX14_readBytes_265 rfl ?_
                    obtain ⟨r74, h⟩ := h
                    refine y_putI hC (pc := 266) zf14 rOb_0 29 (x := (((rF s10 0 29) + 1) + 1)) dX14_readBytes_266 zw2496 (Or.inl rfl) rfl rfl (kk := ?_)
                    have W75 := Ws72.sF (q := 0) (f := 29) (x := (((rF s10 0 29) + 1) + 1)) r74
                    refine z_goto hC (pc := 269) 170 dX14_readBytes_269 (by decide) ?_
                    refine z_lvs [1, 2] rfl ?_
                    obtain ⟨hI, hm⟩ := h
                    exact ih170 (sF s72 0 29 (((rF s10 0 29) + 1) + 1))  W75  (rKeep.tr (rKeep.tr (rKeep.tr (rKeep.tr rKeep.rf kJ rfl rfl rfl rfl rfl) (rKeep.sF0 (f := 29)) rfl rfl rfl rfl rfl) qs72.1 rfl rfl rfl rfl rfl) (rKeep.sF0 (f := 29)) rfl rfl rfl rfl rfl) hI (by omega)
                  · have h := hF c
                    refine z_bipush hC (pc := 248) (v := Int32.ofInt 9) dX14_readBytes_248 (by decide) ?_
                    refine z_goto hC (pc := 250) 255 dX14_readBytes_250 (by decide) ?_
                    refine z_iload_n hC (pc := 255) 2 dX14_readBytes_255 rfl rfl ?_
                    obtain ⟨p76, h⟩ := h
                    refine y_callVv hC (pc := 256) (As := [iv 3, iv 9, iv x1]) (kX14_note l G κ (sF s10 0 29 ((rF s10 0 29) + 1)) 3 9 x1 W37 (r_lit rfl) (r_lit rfl) hx1 p76) dmX14_note zf14 rOb_0 dX14_readBytes_256 zw3111 rfl rfl (Nat.le_of_ble_eq_true rfl) (Nat.le_of_ble_eq_true rfl) (Nat.le_of_ble_eq_true rfl) (Nat.le_of_ble_eq_true rfl) (Nat.le_of_ble_eq_true rfl) (kk := fun s77 Ws77 qs77 => ?_)
                    have h := h s77 Ws77 (TPRp.keep qs77.1 rfl rfl rfl) (qs77.1.F rfl) (qs77.1.F rfl) (qs77.1.F rfl) (qs77.1.F rfl) (fun i => qs77.1.A (f := 26) (by decide) rfl) qs77.2
                    refine z_aload_n hC (pc := 259) 1 dX14_readBytes_259 rfl rfl ?_
                    refine z_dup hC (pc := 260) dX14_readBytes_260 rfl ?_
                    refine y_get hC (pc := 261) zf14 rOb_0 29 (v := iv ((rF s10 0 29) + 1)) dX14_readBytes_261 zw2496 (rv_i (Or.inl rfl) ((qs77.1.F rfl).trans (F_sF _ _ _ _))) (kk := ?_)
                    refine z_iconst hC (pc := 264) (v := Int32.ofInt 1) dX14_readBytes_264 (by decide) ?_
                    refine y_iadd hC (pc := 265) (v := (((rF s10 0 29) + 1) + 1)) dX14_readBytes_265 rfl ?_
                    obtain ⟨r79, h⟩ := h
                    refine y_putI hC (pc := 266) zf14 rOb_0 29 (x := (((rF s10 0 29) + 1) + 1)) dX14_readBytes_266 zw2496 (Or.inl rfl) rfl rfl (kk := ?_)
                    have W80 := Ws77.sF (q := 0) (f := 29) (x := (((rF s10 0 29) + 1) + 1)) r79
                    refine z_goto hC (pc := 269) 170 dX14_readBytes_269 (by decide) ?_
                    refine z_lvs [1, 2] rfl ?_
                    obtain ⟨hI, hm⟩ := h
                    exact ih170 (sF s77 0 29 (((rF s10 0 29) + 1) + 1))  W80  (rKeep.tr (rKeep.tr (rKeep.tr (rKeep.tr rKeep.rf kJ rfl rfl rfl rfl rfl) (rKeep.sF0 (f := 29)) rfl rfl rfl rfl rfl) qs77.1 rfl rfl rfl rfl rfl) (rKeep.sF0 (f := 29)) rfl rfl rfl rfl rfl) hI (by omega)
                · have h := hF c
                  refine z_bipush hC (pc := 237) (v := Int32.ofInt 10) dX14_readBytes_237 (by decide) ?_
                  refine z_goto hC (pc := 239) 255 dX14_readBytes_239 (by decide) ?_
                  refine z_iload_n hC (pc := 255) 2 dX14_readBytes_255 rfl rfl ?_
                  obtain ⟨p81, h⟩ := h
                  refine y_callVv hC (pc := 256) (As := [iv 3, iv 10, iv x1]) (kX14_note l G κ (sF s10 0 29 ((rF s10 0 29) + 1)) 3 10 x1 W37 (r_lit rfl) (r_lit rfl) hx1 p81) dmX14_note zf14 rOb_0 dX14_readBytes_256 zw3111 rfl rfl (Nat.le_of_ble_eq_true rfl) (Nat.le_of_ble_eq_true rfl) (Nat.le_of_ble_eq_true rfl) (Nat.le_of_ble_eq_true rfl) (Nat.le_of_ble_eq_true rfl) (kk := fun s82 Ws82 qs82 => ?_)
                  have h := h s82 Ws82 (TPRp.keep qs82.1 rfl rfl rfl) (qs82.1.F rfl) (qs82.1.F rfl) (qs82.1.F rfl) (qs82.1.F rfl) (fun i => qs82.1.A (f := 26) (by decide) rfl) qs82.2
                  refine z_aload_n hC (pc := 259) 1 dX14_readBytes_259 rfl rfl ?_
                  refine z_dup hC (pc := 260) dX14_readBytes_260 rfl ?_
                  refine y_get hC (pc := 261) zf14 rOb_0 29 (v := iv ((rF s10 0 29) + 1)) dX14_readBytes_261 zw2496 (rv_i (Or.inl rfl) ((qs82.1.F rfl).trans (F_sF _ _ _ _))) (kk := ?_)
                  refine z_iconst hC (pc := 264) (v := Int32.ofInt 1) dX14_readBytes_264 (by decide) ?_
                  refine y_iadd hC (pc := 265) (v := (((rF s10 0 29) + 1) + 1)) dX14_readBytes_265 rfl ?_
                  obtain ⟨r84, h⟩ := h
                  refine y_putI hC (pc := 266) zf14 rOb_0 29 (x := (((rF s10 0 29) + 1) + 1)) dX14_readBytes_266 zw2496 (Or.inl rfl) rfl rfl (kk := ?_)
                  have W85 := Ws82.sF (q := 0) (f := 29) (x := (((rF s10 0 29) + 1) + 1)) r84
                  refine z_goto hC (pc := 269) 170 dX14_readBytes_269 (by decide) ?_
                  refine z_lvs [1, 2] rfl ?_
                  obtain ⟨hI, hm⟩ := h
                  exact ih170 (sF s82 0 29 (((rF s10 0 29) + 1) + 1))  W85  (rKeep.tr (rKeep.tr (rKeep.tr (rKeep.tr rKeep.rf kJ rfl rfl rfl rfl rfl) (rKeep.sF0 (f := 29)) rfl rfl rfl rfl rfl) qs82.1 rfl rfl rfl rfl rfl) (rKeep.sF0 (f := 29)) rfl rfl rfl rfl rfl) hI (by omega)
              · have h := hF c
                refine z_aload_n hC (pc := 219) 1 dX14_readBytes_219 rfl rfl ?_
                refine z_iconst hC (pc := 220) (v := Int32.ofInt 1) dX14_readBytes_220 (by decide) ?_
                refine z_aload_n hC (pc := 221) 1 dX14_readBytes_221 rfl rfl ?_
                obtain ⟨p86, h⟩ := h
                refine y_callVi hC (pc := 222) (As := []) (kX14_place l G κ (sF s10 0 29 ((rF s10 0 29) + 1))  W37  p86) dmX14_place zf14 rOb_0 dX14_readBytes_222 zw3103 rfl rfl (Nat.le_of_ble_eq_true rfl) (Nat.le_of_ble_eq_true rfl) (Nat.le_of_ble_eq_true rfl) (Nat.le_of_ble_eq_true rfl) (Nat.le_of_ble_eq_true rfl) (kk := fun x88 s87 hx88 Ws87 qs87 => ?_)
                obtain ⟨es87, qs87⟩ := qs87
                have es87 := es87.symm
                subst es87
                have h := h x88 hx88 qs87
                obtain ⟨p89, h⟩ := h
                refine y_callVv hC (pc := 225) (As := [iv 1, iv x88]) (kX14_bad l G κ (sF s10 0 29 ((rF s10 0 29) + 1)) 1 x88 W37 (r_lit rfl) hx88 p89) dmX14_bad zf14 rOb_0 dX14_readBytes_225 zw3000 rfl rfl (Nat.le_of_ble_eq_true rfl) (Nat.le_of_ble_eq_true rfl) (Nat.le_of_ble_eq_true rfl) (Nat.le_of_ble_eq_true rfl) (Nat.le_of_ble_eq_true rfl) (kk := fun s90 Ws90 qs90 => ?_)
                have h := h s90 Ws90 (TPRp.keep qs90.1 rfl rfl rfl) (WNp.keep qs90.1 rfl rfl rfl rfl rfl) (qs90.1.F rfl) (qs90.1.F rfl) (qs90.1.F rfl) (qs90.1.F rfl) (fun i => qs90.1.A (f := 26) (by decide) rfl) qs90.2
                exact y_retv hR dX14_readBytes_228 Ws90 (Nat.le_of_ble_eq_true rfl) (Nat.le_of_ble_eq_true rfl) ⟨(rKeep.tr (rKeep.tr (rKeep.tr rKeep.rf kJ rfl rfl rfl rfl rfl) (rKeep.sF0 (f := 29)) rfl rfl rfl rfl rfl) qs90.1 rfl rfl rfl rfl rfl), h⟩
  obtain ⟨r92, h⟩ := h
  obtain ⟨hT, hF⟩ := h
  refine y_icmp_ge hC (pc := 10) 170 r92 (hwf.f _ _) dX14_readBytes_10 (by decide) (fun c => ?_) (fun c => ?_)
  · have h := hT c
    exact j170 _ σ  hwf  rKeep.rf h (Nat.le_refl _)
  · have h := hF c
    refine z_aload_n hC (pc := 13) 0 dX14_readBytes_13 rfl rfl ?_
    refine y_get hC (pc := 14) zf14 rOb_0 26 (v := .ref (κ 1026)) dX14_readBytes_14 zw2493 (rv_c rfl) (kk := ?_)
    refine z_aload_n hC (pc := 17) 0 dX14_readBytes_17 rfl rfl ?_
    refine y_get hC (pc := 18) zf14 rOb_0 29 (v := iv (rF σ 0 29)) dX14_readBytes_18 zw2496 (rv_i (Or.inl rfl) rfl) (kk := ?_)
    refine z_iconst hC (pc := 21) (v := Int32.ofInt 1) dX14_readBytes_21 (by decide) ?_
    refine y_iadd hC (pc := 22) (v := ((rF σ 0 29) + 1)) dX14_readBytes_22 rfl ?_
    obtain ⟨b93, h⟩ := h
    refine y_bald hC (pc := 23) (rAr_m rfl) dX14_readBytes_23 b93 (v := (rA σ 1026 ((rF σ 0 29) + 1))) rfl (kk := ?_)
    have h := h (hwf.a _ _)
    refine z_bipush hC (pc := 24) (v := Int32.ofInt 92) dX14_readBytes_24 (by decide) ?_
    obtain ⟨hT, hF⟩ := h
    refine y_icmp_ne hC (pc := 26) 170 (hwf.a _ _) (r_lit rfl) dX14_readBytes_26 (by decide) (fun c => ?_) (fun c => ?_)
    · have h := hT c
      exact j170 _ σ  hwf  rKeep.rf h (Nat.le_refl _)
    · have h := hF c
      refine z_aload_n hC (pc := 29) 0 dX14_readBytes_29 rfl rfl ?_
      refine z_dup hC (pc := 30) dX14_readBytes_30 rfl ?_
      refine y_get hC (pc := 31) zf14 rOb_0 29 (v := iv (rF σ 0 29)) dX14_readBytes_31 zw2496 (rv_i (Or.inl rfl) rfl) (kk := ?_)
      refine z_iconst hC (pc := 34) (v := Int32.ofInt 2) dX14_readBytes_34 (by decide) ?_
      refine y_iadd hC (pc := 35) (v := ((rF σ 0 29) + 2)) dX14_readBytes_35 rfl ?_
      obtain ⟨r94, h⟩ := h
      refine y_putI hC (pc := 36) zf14 rOb_0 29 (x := ((rF σ 0 29) + 2)) dX14_readBytes_36 zw2496 (Or.inl rfl) rfl rfl (kk := ?_)
      have W95 := hwf.sF (q := 0) (f := 29) (x := ((rF σ 0 29) + 2)) r94
      refine z_aload_n hC (pc := 39) 0 dX14_readBytes_39 rfl rfl ?_
      obtain ⟨p96, h⟩ := h
      refine y_callVi hC (pc := 40) (As := []) (kX14_here l G κ (sF σ 0 29 ((rF σ 0 29) + 2))  W95  p96) dmX14_here zf14 rOb_0 dX14_readBytes_40 zw3099 rfl rfl (Nat.le_of_ble_eq_true rfl) (Nat.le_of_ble_eq_true rfl) (Nat.le_of_ble_eq_true rfl) (Nat.le_of_ble_eq_true rfl) (Nat.le_of_ble_eq_true rfl) (kk := fun x98 s97 hx98 Ws97 qs97 => ?_)
      obtain ⟨es97, qs97⟩ := qs97
      have es97 := es97.symm
      subst es97
      have h := h x98 hx98 qs97
      refine z_aload_n hC (pc := 43) 0 dX14_readBytes_43 rfl rfl ?_
      refine y_get hC (pc := 44) zf14 rOb_0 19 (v := iv (rF σ 0 19)) dX14_readBytes_44 zw2486 (rv_i (Or.inl rfl) ((F_sF_ne (by decide)).trans rfl)) (kk := ?_)
      have h := h (hwf.f _ _)
      obtain ⟨hT, hF⟩ := h
      refine y_icmp_eq hC (pc := 47) 60 hx98 (hwf.f _ _) dX14_readBytes_47 (by decide) (fun c => ?_) (fun c => ?_)
      · have h := hT c
        refine z_aload_n hC (pc := 60) 0 dX14_readBytes_60 rfl rfl ?_
        refine z_dup hC (pc := 61) dX14_readBytes_61 rfl ?_
        refine y_get hC (pc := 62) zf14 rOb_0 29 (v := iv ((rF σ 0 29) + 2)) dX14_readBytes_62 zw2496 (rv_i (Or.inl rfl) (F_sF _ _ _ _)) (kk := ?_)
        refine z_iconst hC (pc := 65) (v := Int32.ofInt 1) dX14_readBytes_65 (by decide) ?_
        refine y_iadd hC (pc := 66) (v := (((rF σ 0 29) + 2) + 1)) dX14_readBytes_66 rfl ?_
        obtain ⟨r99, h⟩ := h
        refine y_putI hC (pc := 67) zf14 rOb_0 29 (x := (((rF σ 0 29) + 2) + 1)) dX14_readBytes_67 zw2496 (Or.inl rfl) rfl rfl (kk := ?_)
        have W100 := W95.sF (q := 0) (f := 29) (x := (((rF σ 0 29) + 2) + 1)) r99
        have j70 : ∀ (d70 : Nat), ∀ (s101 : rS) , rWF s101 → rKeep 0x4020001c00 0 0x3c00000000 0 0 σ s101 → inv_X14_readBytes_70 σ x1 s101 → (mu_X14_readBytes_70 σ x1 s101 ) ≤ d70 → zS X G 3 (rW G κ s101) [(0, .ref (κ 0)), (1, iv x1)] 0 0 70 [] := by
          intro d70
          induction d70 with
          | zero =>
            intro s101 Ws101 kJ hI hmu
            exact absurd hmu (by have := h_70m  s101  Ws101  (TPRp.keep kJ rfl rfl rfl) (kJ.F rfl) (kJ.F rfl) (fun i => kJ.A (f := 26) (by decide) rfl) hI; omega)
          | succ d70 ih70 =>
            intro s101 Ws101 kJ hI hmu70
            have h := h_70  s101  Ws101  (TPRp.keep kJ rfl rfl rfl) (kJ.F rfl) (kJ.F rfl) (fun i => kJ.A (f := 26) (by decide) rfl) hI
            refine z_aload_n hC (pc := 70) 0 dX14_readBytes_70 rfl rfl ?_
            obtain ⟨p102, h⟩ := h
            refine y_callVi hC (pc := 71) (As := []) (kX14_here l G κ s101  Ws101  p102) dmX14_here zf14 rOb_0 dX14_readBytes_71 zw3099 rfl rfl (Nat.le_of_ble_eq_true rfl) (Nat.le_of_ble_eq_true rfl) (Nat.le_of_ble_eq_true rfl) (Nat.le_of_ble_eq_true rfl) (Nat.le_of_ble_eq_true rfl) (kk := fun x104 s103 hx104 Ws103 qs103 => ?_)
            obtain ⟨es103, qs103⟩ := qs103
            have es103 := es103.symm
            subst es103
            have h := h x104 hx104 qs103
            refine z_bipush hC (pc := 74) (v := Int32.ofInt 32) dX14_readBytes_74 (by decide) ?_
            obtain ⟨hT, hF⟩ := h
            refine y_icmp_eq hC (pc := 76) 88 hx104 (r_lit rfl) dX14_readBytes_76 (by decide) (fun c => ?_) (fun c => ?_)
            · have h := hT c
              refine z_aload_n hC (pc := 88) 0 dX14_readBytes_88 rfl rfl ?_
              refine z_dup hC (pc := 89) dX14_readBytes_89 rfl ?_
              refine y_get hC (pc := 90) zf14 rOb_0 29 (v := iv (rF s101 0 29)) dX14_readBytes_90 zw2496 (rv_i (Or.inl rfl) rfl) (kk := ?_)
              have h := h (Ws101.f _ _)
              refine z_iconst hC (pc := 93) (v := Int32.ofInt 1) dX14_readBytes_93 (by decide) ?_
              refine y_iadd hC (pc := 94) (v := ((rF s101 0 29) + 1)) dX14_readBytes_94 rfl ?_
              obtain ⟨r105, h⟩ := h
              refine y_putI hC (pc := 95) zf14 rOb_0 29 (x := ((rF s101 0 29) + 1)) dX14_readBytes_95 zw2496 (Or.inl rfl) rfl rfl (kk := ?_)
              have W106 := Ws101.sF (q := 0) (f := 29) (x := ((rF s101 0 29) + 1)) r105
              refine z_goto hC (pc := 98) 70 dX14_readBytes_98 (by decide) ?_
              obtain ⟨hI, hm⟩ := h
              exact ih70 (sF s101 0 29 ((rF s101 0 29) + 1))  W106  (rKeep.tr (rKeep.tr rKeep.rf kJ rfl rfl rfl rfl rfl) (rKeep.sF0 (f := 29)) rfl rfl rfl rfl rfl) hI (by omega)
            · have h := hF c
              refine z_aload_n hC (pc := 79) 0 dX14_readBytes_79 rfl rfl ?_
              obtain ⟨p107, h⟩ := h
              refine y_callVi hC (pc := 80) (As := []) (kX14_here l G κ s101  Ws101  p107) dmX14_here zf14 rOb_0 dX14_readBytes_80 zw3099 rfl rfl (Nat.le_of_ble_eq_true rfl) (Nat.le_of_ble_eq_true rfl) (Nat.le_of_ble_eq_true rfl) (Nat.le_of_ble_eq_true rfl) (Nat.le_of_ble_eq_true rfl) (kk := fun x109 s108 hx109 Ws108 qs108 => ?_)
              obtain ⟨es108, qs108⟩ := qs108
              have es108 := es108.symm
              subst es108
              have h := h x109 hx109 qs108
              refine z_bipush hC (pc := 83) (v := Int32.ofInt 9) dX14_readBytes_83 (by decide) ?_
              obtain ⟨hT, hF⟩ := h
              refine y_icmp_ne hC (pc := 85) 101 hx109 (r_lit rfl) dX14_readBytes_85 (by decide) (fun c => ?_) (fun c => ?_)
              · have h := hT c
                refine z_aload_n hC (pc := 101) 0 dX14_readBytes_101 rfl rfl ?_
                obtain ⟨p110, h⟩ := h
                refine y_callVi hC (pc := 102) (As := []) (kX14_here l G κ s101  Ws101  p110) dmX14_here zf14 rOb_0 dX14_readBytes_102 zw3099 rfl rfl (Nat.le_of_ble_eq_true rfl) (Nat.le_of_ble_eq_true rfl) (Nat.le_of_ble_eq_true rfl) (Nat.le_of_ble_eq_true rfl) (Nat.le_of_ble_eq_true rfl) (kk := fun x112 s111 hx112 Ws111 qs111 => ?_)
                obtain ⟨es111, qs111⟩ := qs111
                have es111 := es111.symm
                subst es111
                have h := h x112 hx112 qs111
                refine z_bipush hC (pc := 105) (v := Int32.ofInt 10) dX14_readBytes_105 (by decide) ?_
                obtain ⟨hT, hF⟩ := h
                refine y_icmp_eq hC (pc := 107) 120 hx112 (r_lit rfl) dX14_readBytes_107 (by decide) (fun c => ?_) (fun c => ?_)
                · have h := hT c
                  refine z_aload_n hC (pc := 120) 0 dX14_readBytes_120 rfl rfl ?_
                  refine z_dup hC (pc := 121) dX14_readBytes_121 rfl ?_
                  refine y_get hC (pc := 122) zf14 rOb_0 29 (v := iv (rF s101 0 29)) dX14_readBytes_122 zw2496 (rv_i (Or.inl rfl) rfl) (kk := ?_)
                  have h := h (Ws101.f _ _)
                  refine z_iconst hC (pc := 125) (v := Int32.ofInt 1) dX14_readBytes_125 (by decide) ?_
                  refine y_iadd hC (pc := 126) (v := ((rF s101 0 29) + 1)) dX14_readBytes_126 rfl ?_
                  obtain ⟨r113, h⟩ := h
                  refine y_putI hC (pc := 127) zf14 rOb_0 29 (x := ((rF s101 0 29) + 1)) dX14_readBytes_127 zw2496 (Or.inl rfl) rfl rfl (kk := ?_)
                  have W114 := Ws101.sF (q := 0) (f := 29) (x := ((rF s101 0 29) + 1)) r113
                  have j130 : ∀ (d130 : Nat), ∀ (s115 : rS) , rWF s115 → rKeep 0x4020001c00 0 0x3c00000000 0 0 σ s115 → inv_X14_readBytes_130 σ x1 s115 → (mu_X14_readBytes_130 σ x1 s115 ) ≤ d130 → zS X G 3 (rW G κ s115) [(0, .ref (κ 0)), (1, iv x1)] 0 0 130 [] := by
                    intro d130
                    induction d130 with
                    | zero =>
                      intro s115 Ws115 kJ hI hmu
                      exact absurd hmu (by have := h_130m  s115  Ws115  (TPRp.keep kJ rfl rfl rfl) (kJ.F rfl) (kJ.F rfl) (fun i => kJ.A (f := 26) (by decide) rfl) hI; omega)
                    | succ d130 ih130 =>
                      intro s115 Ws115 kJ hI hmu130
                      have h := h_130  s115  Ws115  (TPRp.keep kJ rfl rfl rfl) (kJ.F rfl) (kJ.F rfl) (fun i => kJ.A (f := 26) (by decide) rfl) hI
                      refine z_aload_n hC (pc := 130) 0 dX14_readBytes_130 rfl rfl ?_
                      obtain ⟨p116, h⟩ := h
                      refine y_callVi hC (pc := 131) (As := []) (kX14_here l G κ s115  Ws115  p116) dmX14_here zf14 rOb_0 dX14_readBytes_131 zw3099 rfl rfl (Nat.le_of_ble_eq_true rfl) (Nat.le_of_ble_eq_true rfl) (Nat.le_of_ble_eq_true rfl) (Nat.le_of_ble_eq_true rfl) (Nat.le_of_ble_eq_true rfl) (kk := fun x118 s117 hx118 Ws117 qs117 => ?_)
                      obtain ⟨es117, qs117⟩ := qs117
                      have es117 := es117.symm
                      subst es117
                      have h := h x118 hx118 qs117
                      refine z_bipush hC (pc := 134) (v := Int32.ofInt 32) dX14_readBytes_134 (by decide) ?_
                      obtain ⟨hT, hF⟩ := h
                      refine y_icmp_eq hC (pc := 136) 148 hx118 (r_lit rfl) dX14_readBytes_136 (by decide) (fun c => ?_) (fun c => ?_)
                      · have h := hT c
                        refine z_aload_n hC (pc := 148) 0 dX14_readBytes_148 rfl rfl ?_
                        refine z_dup hC (pc := 149) dX14_readBytes_149 rfl ?_
                        refine y_get hC (pc := 150) zf14 rOb_0 29 (v := iv (rF s115 0 29)) dX14_readBytes_150 zw2496 (rv_i (Or.inl rfl) rfl) (kk := ?_)
                        have h := h (Ws115.f _ _)
                        refine z_iconst hC (pc := 153) (v := Int32.ofInt 1) dX14_readBytes_153 (by decide) ?_
                        refine y_iadd hC (pc := 154) (v := ((rF s115 0 29) + 1)) dX14_readBytes_154 rfl ?_
                        obtain ⟨r119, h⟩ := h
                        refine y_putI hC (pc := 155) zf14 rOb_0 29 (x := ((rF s115 0 29) + 1)) dX14_readBytes_155 zw2496 (Or.inl rfl) rfl rfl (kk := ?_)
                        have W120 := Ws115.sF (q := 0) (f := 29) (x := ((rF s115 0 29) + 1)) r119
                        refine z_goto hC (pc := 158) 130 dX14_readBytes_158 (by decide) ?_
                        obtain ⟨hI, hm⟩ := h
                        exact ih130 (sF s115 0 29 ((rF s115 0 29) + 1))  W120  (rKeep.tr (rKeep.tr rKeep.rf kJ rfl rfl rfl rfl rfl) (rKeep.sF0 (f := 29)) rfl rfl rfl rfl rfl) hI (by omega)
                      · have h := hF c
                        refine z_aload_n hC (pc := 139) 0 dX14_readBytes_139 rfl rfl ?_
                        obtain ⟨p121, h⟩ := h
                        refine y_callVi hC (pc := 140) (As := []) (kX14_here l G κ s115  Ws115  p121) dmX14_here zf14 rOb_0 dX14_readBytes_140 zw3099 rfl rfl (Nat.le_of_ble_eq_true rfl) (Nat.le_of_ble_eq_true rfl) (Nat.le_of_ble_eq_true rfl) (Nat.le_of_ble_eq_true rfl) (Nat.le_of_ble_eq_true rfl) (kk := fun x123 s122 hx123 Ws122 qs122 => ?_)
                        obtain ⟨es122, qs122⟩ := qs122
                        have es122 := es122.symm
                        subst es122
                        have h := h x123 hx123 qs122
                        refine z_bipush hC (pc := 143) (v := Int32.ofInt 9) dX14_readBytes_143 (by decide) ?_
                        obtain ⟨hT, hF⟩ := h
                        refine y_icmp_ne hC (pc := 145) 161 hx123 (r_lit rfl) dX14_readBytes_145 (by decide) (fun c => ?_) (fun c => ?_)
                        · have h := hT c
                          refine z_aload_n hC (pc := 161) 0 dX14_readBytes_161 rfl rfl ?_
                          refine z_bipush hC (pc := 162) (v := Int32.ofInt 20) dX14_readBytes_162 (by decide) ?_
                          refine z_iconst hC (pc := 164) (v := Int32.ofInt 0) dX14_readBytes_164 (by decide) ?_
                          refine z_iload_n hC (pc := 165) 1 dX14_readBytes_165 rfl rfl ?_
                          obtain ⟨p124, h⟩ := h
                          refine y_callVv hC (pc := 166) (As := [iv 20, iv 0, iv x1]) (kX14_note l G κ s115 20 0 x1 Ws115 (r_lit rfl) (r_lit rfl) hx1 p124) dmX14_note zf14 rOb_0 dX14_readBytes_166 zw3111 rfl rfl (Nat.le_of_ble_eq_true rfl) (Nat.le_of_ble_eq_true rfl) (Nat.le_of_ble_eq_true rfl) (Nat.le_of_ble_eq_true rfl) (Nat.le_of_ble_eq_true rfl) (kk := fun s125 Ws125 qs125 => ?_)
                          have h := h s125 Ws125 (TPRp.keep qs125.1 rfl rfl rfl) (qs125.1.F rfl) (qs125.1.F rfl) (qs125.1.F rfl) (qs125.1.F rfl) (fun i => qs125.1.A (f := 26) (by decide) rfl) qs125.2
                          exact y_retv hR dX14_readBytes_169 Ws125 (Nat.le_of_ble_eq_true rfl) (Nat.le_of_ble_eq_true rfl) ⟨(rKeep.tr (rKeep.tr rKeep.rf kJ rfl rfl rfl rfl rfl) qs125.1 rfl rfl rfl rfl rfl), h⟩
                        · have h := hF c
                          refine z_aload_n hC (pc := 148) 0 dX14_readBytes_148 rfl rfl ?_
                          refine z_dup hC (pc := 149) dX14_readBytes_149 rfl ?_
                          refine y_get hC (pc := 150) zf14 rOb_0 29 (v := iv (rF s115 0 29)) dX14_readBytes_150 zw2496 (rv_i (Or.inl rfl) rfl) (kk := ?_)
                          have h := h (Ws115.f _ _)
                          refine z_iconst hC (pc := 153) (v := Int32.ofInt 1) dX14_readBytes_153 (by decide) ?_
                          refine y_iadd hC (pc := 154) (v := ((rF s115 0 29) + 1)) dX14_readBytes_154 rfl ?_
                          obtain ⟨r127, h⟩ := h
                          refine y_putI hC (pc := 155) zf14 rOb_0 29 (x := ((rF s115 0 29) + 1)) dX14_readBytes_155 zw2496 (Or.inl rfl) rfl rfl (kk := ?_)
                          have W128 := Ws115.sF (q := 0) (f := 29) (x := ((rF s115 0 29) + 1)) r127
                          refine z_goto hC (pc := 158) 130 dX14_readBytes_158 (by decide) ?_
                          obtain ⟨hI, hm⟩ := h
                          exact ih130 (sF s115 0 29 ((rF s115 0 29) + 1))  W128  (rKeep.tr (rKeep.tr rKeep.rf kJ rfl rfl rfl rfl rfl) (rKeep.sF0 (f := 29)) rfl rfl rfl rfl rfl) hI (by omega)
                  exact j130 _ (sF s101 0 29 ((rF s101 0 29) + 1))  W114  (rKeep.tr (rKeep.tr rKeep.rf kJ rfl rfl rfl rfl rfl) (rKeep.sF0 (f := 29)) rfl rfl rfl rfl rfl) h (Nat.le_refl _)
                · have h := hF c
                  refine z_aload_n hC (pc := 110) 0 dX14_readBytes_110 rfl rfl ?_
                  refine z_iconst hC (pc := 111) (v := Int32.ofInt 1) dX14_readBytes_111 (by decide) ?_
                  refine z_aload_n hC (pc := 112) 0 dX14_readBytes_112 rfl rfl ?_
                  obtain ⟨p129, h⟩ := h
                  refine y_callVi hC (pc := 113) (As := []) (kX14_place l G κ s101  Ws101  p129) dmX14_place zf14 rOb_0 dX14_readBytes_113 zw3103 rfl rfl (Nat.le_of_ble_eq_true rfl) (Nat.le_of_ble_eq_true rfl) (Nat.le_of_ble_eq_true rfl) (Nat.le_of_ble_eq_true rfl) (Nat.le_of_ble_eq_true rfl) (kk := fun x131 s130 hx131 Ws130 qs130 => ?_)
                  obtain ⟨es130, qs130⟩ := qs130
                  have es130 := es130.symm
                  subst es130
                  have h := h x131 hx131 qs130
                  obtain ⟨p132, h⟩ := h
                  refine y_callVv hC (pc := 116) (As := [iv 1, iv x131]) (kX14_bad l G κ s101 1 x131 Ws101 (r_lit rfl) hx131 p132) dmX14_bad zf14 rOb_0 dX14_readBytes_116 zw3000 rfl rfl (Nat.le_of_ble_eq_true rfl) (Nat.le_of_ble_eq_true rfl) (Nat.le_of_ble_eq_true rfl) (Nat.le_of_ble_eq_true rfl) (Nat.le_of_ble_eq_true rfl) (kk := fun s133 Ws133 qs133 => ?_)
                  have h := h s133 Ws133 (TPRp.keep qs133.1 rfl rfl rfl) (WNp.keep qs133.1 rfl rfl rfl rfl rfl) (qs133.1.F rfl) (qs133.1.F rfl) (qs133.1.F rfl) (qs133.1.F rfl) (fun i => qs133.1.A (f := 26) (by decide) rfl) qs133.2
                  exact y_retv hR dX14_readBytes_119 Ws133 (Nat.le_of_ble_eq_true rfl) (Nat.le_of_ble_eq_true rfl) ⟨(rKeep.tr (rKeep.tr rKeep.rf kJ rfl rfl rfl rfl rfl) qs133.1 rfl rfl rfl rfl rfl), h⟩
              · have h := hF c
                refine z_aload_n hC (pc := 88) 0 dX14_readBytes_88 rfl rfl ?_
                refine z_dup hC (pc := 89) dX14_readBytes_89 rfl ?_
                refine y_get hC (pc := 90) zf14 rOb_0 29 (v := iv (rF s101 0 29)) dX14_readBytes_90 zw2496 (rv_i (Or.inl rfl) rfl) (kk := ?_)
                have h := h (Ws101.f _ _)
                refine z_iconst hC (pc := 93) (v := Int32.ofInt 1) dX14_readBytes_93 (by decide) ?_
                refine y_iadd hC (pc := 94) (v := ((rF s101 0 29) + 1)) dX14_readBytes_94 rfl ?_
                obtain ⟨r135, h⟩ := h
                refine y_putI hC (pc := 95) zf14 rOb_0 29 (x := ((rF s101 0 29) + 1)) dX14_readBytes_95 zw2496 (Or.inl rfl) rfl rfl (kk := ?_)
                have W136 := Ws101.sF (q := 0) (f := 29) (x := ((rF s101 0 29) + 1)) r135
                refine z_goto hC (pc := 98) 70 dX14_readBytes_98 (by decide) ?_
                obtain ⟨hI, hm⟩ := h
                exact ih70 (sF s101 0 29 ((rF s101 0 29) + 1))  W136  (rKeep.tr (rKeep.tr rKeep.rf kJ rfl rfl rfl rfl rfl) (rKeep.sF0 (f := 29)) rfl rfl rfl rfl rfl) hI (by omega)
        exact j70 _ (sF (sF σ 0 29 ((rF σ 0 29) + 2)) 0 29 (((rF σ 0 29) + 2) + 1))  W100  (rKeep.tr (rKeep.tr rKeep.rf (rKeep.sF0 (f := 29)) rfl rfl rfl rfl rfl) (rKeep.sF0 (f := 29)) rfl rfl rfl rfl rfl) h (Nat.le_refl _)
      · have h := hF c
        refine z_aload_n hC (pc := 50) 0 dX14_readBytes_50 rfl rfl ?_
        refine z_iconst hC (pc := 51) (v := Int32.ofInt 1) dX14_readBytes_51 (by decide) ?_
        refine z_aload_n hC (pc := 52) 0 dX14_readBytes_52 rfl rfl ?_
        obtain ⟨p137, h⟩ := h
        refine y_callVi hC (pc := 53) (As := []) (kX14_place l G κ (sF σ 0 29 ((rF σ 0 29) + 2))  W95  p137) dmX14_place zf14 rOb_0 dX14_readBytes_53 zw3103 rfl rfl (Nat.le_of_ble_eq_true rfl) (Nat.le_of_ble_eq_true rfl) (Nat.le_of_ble_eq_true rfl) (Nat.le_of_ble_eq_true rfl) (Nat.le_of_ble_eq_true rfl) (kk := fun x139 s138 hx139 Ws138 qs138 => ?_)
        obtain ⟨es138, qs138⟩ := qs138
        have es138 := es138.symm
        subst es138
        have h := h x139 hx139 qs138
        obtain ⟨p140, h⟩ := h
        refine y_callVv hC (pc := 56) (As := [iv 1, iv x139]) (kX14_bad l G κ (sF σ 0 29 ((rF σ 0 29) + 2)) 1 x139 W95 (r_lit rfl) hx139 p140) dmX14_bad zf14 rOb_0 dX14_readBytes_56 zw3000 rfl rfl (Nat.le_of_ble_eq_true rfl) (Nat.le_of_ble_eq_true rfl) (Nat.le_of_ble_eq_true rfl) (Nat.le_of_ble_eq_true rfl) (Nat.le_of_ble_eq_true rfl) (kk := fun s141 Ws141 qs141 => ?_)
        have h := h s141 Ws141 (TPRp.keep qs141.1 rfl rfl rfl) (WNp.keep qs141.1 rfl rfl rfl rfl rfl) (qs141.1.F rfl) (qs141.1.F rfl) (qs141.1.F rfl) (qs141.1.F rfl) (fun i => qs141.1.A (f := 26) (by decide) rfl) qs141.2
        exact y_retv hR dX14_readBytes_59 Ws141 (Nat.le_of_ble_eq_true rfl) (Nat.le_of_ble_eq_true rfl) ⟨(rKeep.tr (rKeep.tr rKeep.rf (rKeep.sF0 (f := 29)) rfl rfl rfl rfl rfl) qs141.1 rfl rfl rfl rfl rfl), h⟩
theorem kX14_readBytes (l : Launch) (G : zG) (κ : Nat → Nat) (σ : rS) (x1 : Int) (hwf : rWF σ) (hx1 : rng x1) (hp : pre_X14_readBytes σ x1) : rMv l G κ yX14_readBytes cX14_readBytes 3 2 23 [.ref (κ 0), iv x1] σ (fun s => rKeep 0x4020001c00 0 0x3c00000000 0 0 σ s ∧ post_X14_readBytes σ x1 s) := wX14_readBytes l G κ σ x1 hwf hx1 (post_X14_readBytes σ x1) (vX14_readBytes σ x1 hwf hx1 hp) (vX14_readBytes_170 σ x1 hwf hx1 hp) (vX14_readBytes_170m σ x1 hwf hx1 hp) (vX14_readBytes_130 σ x1 hwf hx1 hp) (vX14_readBytes_130m σ x1 hwf hx1 hp) (vX14_readBytes_70 σ x1 hwf hx1 hp) (vX14_readBytes_70m σ x1 hwf hx1 hp)
