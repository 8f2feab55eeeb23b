theorem zw3034 : Cond.methodLink "TemplateHouseModel" 405 ⟨"TemplateHouseModel", "sign", "(Ljava/lang/String;)V"⟩ ∈ zT := zsub13 154 (by decide +kernel) (by decide +kernel)
theorem zw3332 : Cond.methodLink "TemplateHouseModel" 520 ⟨"TemplateHouseModel", "readFileSub", "()I"⟩ ∈ zT := zsub14 212 (by decide +kernel) (by decide +kernel)
theorem zw3331 : Cond.code ⟨"TemplateHouseModel", "readValue", "(Z)I"⟩ prog_15_method_28_code 4 (Option.some Jvm.ClassFile.FieldType.int) ∈ zT := zsub14 211 rfl rfl
theorem zw3330 : Cond.instanceMethod ⟨"TemplateHouseModel", "readValue", "(Z)I"⟩ ∈ zT := zsub14 210 (by decide +kernel) (by decide +kernel)
theorem zwp275 : Cond.selects "TemplateHouseModel" ⟨"TemplateHouseModel", "readValue", "(Z)I"⟩ ⟨"TemplateHouseModel", "readValue", "(Z)I"⟩ ∈ zT := zin 275 (by decide +kernel) (by decide +kernel)
abbrev cX14_readValue : ByteArray := prog_15_method_28_code
abbrev yX14_readValue : MethodName := ⟨"TemplateHouseModel", "readValue", "(Z)I"⟩
theorem dmX14_readValue : zDv yX14_readValue cX14_readValue 4 (some .int) 1 := ⟨⟨⟨by decide +kernel, by decide +kernel, by decide +kernel⟩, zw3331, zw14⟩, zw3330, zwp275⟩
theorem dX14_readValue_0 : decode cX14_readValue 0 = .ok (.aload_n 0, 1) := by decide +kernel
theorem dX14_readValue_1 : decode cX14_readValue 1 = .ok (.invokevirtual 308, 3) := by decide +kernel
theorem dX14_readValue_4 : decode cX14_readValue 4 = .ok (.aload_n 0, 1) := by decide +kernel
theorem dX14_readValue_5 : decode cX14_readValue 5 = .ok (.getfield 248, 3) := by decide +kernel
theorem dX14_readValue_8 : decode cX14_readValue 8 = .ok (.ifCond .eq 5, 3) := by decide +kernel
theorem dX14_readValue_13 : decode cX14_readValue 13 = .ok (.aload_n 0, 1) := by decide +kernel
theorem dX14_readValue_14 : decode cX14_readValue 14 = .ok (.getfield 274, 3) := by decide +kernel
theorem dX14_readValue_17 : decode cX14_readValue 17 = .ok (.istore_n 2, 1) := by decide +kernel
theorem dX14_readValue_18 : decode cX14_readValue 18 = .ok (.aload_n 0, 1) := by decide +kernel
theorem dX14_readValue_19 : decode cX14_readValue 19 = .ok (.aload_n 0, 1) := by decide +kernel
theorem dX14_readValue_20 : decode cX14_readValue 20 = .ok (.getfield 274, 3) := by decide +kernel
theorem dX14_readValue_23 : decode cX14_readValue 23 = .ok (.invokevirtual 266, 3) := by decide +kernel
theorem dX14_readValue_26 : decode cX14_readValue 26 = .ok (.bipush 34, 2) := by decide +kernel
theorem dX14_readValue_28 : decode cX14_readValue 28 = .ok (.if_icmp .ne 36, 3) := by decide +kernel
theorem dX14_readValue_64 : decode cX14_readValue 64 = .ok (.aload_n 0, 1) := by decide +kernel
theorem dX14_readValue_65 : decode cX14_readValue 65 = .ok (.aload_n 0, 1) := by decide +kernel
theorem dX14_readValue_66 : decode cX14_readValue 66 = .ok (.getfield 274, 3) := by decide +kernel
theorem dX14_readValue_69 : decode cX14_readValue 69 = .ok (.invokevirtual 266, 3) := by decide +kernel
theorem dX14_readValue_72 : decode cX14_readValue 72 = .ok (.bipush 123, 2) := by decide +kernel
theorem dX14_readValue_74 : decode cX14_readValue 74 = .ok (.if_icmp .ne 8, 3) := by decide +kernel
theorem dX14_readValue_82 : decode cX14_readValue 82 = .ok (.aload_n 0, 1) := by decide +kernel
theorem dX14_readValue_83 : decode cX14_readValue 83 = .ok (.ldc_w 323, 3) := by decide +kernel
theorem dX14_readValue_86 : decode cX14_readValue 86 = .ok (.invokevirtual 313, 3) := by decide +kernel
theorem dX14_readValue_89 : decode cX14_readValue 89 = .ok (.ifCond .ne 13, 3) := by decide +kernel
theorem dX14_readValue_102 : decode cX14_readValue 102 = .ok (.aload_n 0, 1) := by decide +kernel
theorem dX14_readValue_103 : decode cX14_readValue 103 = .ok (.aload_n 0, 1) := by decide +kernel
theorem dX14_readValue_104 : decode cX14_readValue 104 = .ok (.ldc_w 323, 3) := by decide +kernel
theorem dX14_readValue_107 : decode cX14_readValue 107 = .ok (.invokevirtual 313, 3) := by decide +kernel
theorem dX14_readValue_110 : decode cX14_readValue 110 = .ok (.ifCond .eq 8, 3) := by decide +kernel
theorem dX14_readValue_118 : decode cX14_readValue 118 = .ok (.bipush 32, 2) := by decide +kernel
theorem dX14_readValue_120 : decode cX14_readValue 120 = .ok (.iconst 0, 1) := by decide +kernel
theorem dX14_readValue_121 : decode cX14_readValue 121 = .ok (.iconst 0, 1) := by decide +kernel
theorem dX14_readValue_122 : decode cX14_readValue 122 = .ok (.iload_n 2, 1) := by decide +kernel
theorem dX14_readValue_123 : decode cX14_readValue 123 = .ok (.invokevirtual 387, 3) := by decide +kernel
theorem dX14_readValue_126 : decode cX14_readValue 126 = .ok (.istore_n 3, 1) := by decide +kernel
theorem dX14_readValue_127 : decode cX14_readValue 127 = .ok (.aload_n 0, 1) := by decide +kernel
theorem dX14_readValue_128 : decode cX14_readValue 128 = .ok (.aload_n 0, 1) := by decide +kernel
theorem dX14_readValue_129 : decode cX14_readValue 129 = .ok (.getfield 263, 3) := by decide +kernel
theorem dX14_readValue_132 : decode cX14_readValue 132 = .ok (.aload_n 0, 1) := by decide +kernel
theorem dX14_readValue_133 : decode cX14_readValue 133 = .ok (.getfield 260, 3) := by decide +kernel
theorem dX14_readValue_136 : decode cX14_readValue 136 = .ok (.aload_n 0, 1) := by decide +kernel
theorem dX14_readValue_137 : decode cX14_readValue 137 = .ok (.getfield 274, 3) := by decide +kernel
theorem dX14_readValue_140 : decode cX14_readValue 140 = .ok (.invokestatic 300, 3) := by decide +kernel
theorem dX14_readValue_143 : decode cX14_readValue 143 = .ok (.putfield 274, 3) := by decide +kernel
theorem dX14_readValue_146 : decode cX14_readValue 146 = .ok (.iload_n 3, 1) := by decide +kernel
theorem dX14_readValue_147 : decode cX14_readValue 147 = .ok (.ireturn, 1) := by decide +kernel
theorem dX14_readValue_113 : decode cX14_readValue 113 = .ok (.bipush 31, 2) := by decide +kernel
theorem dX14_readValue_115 : decode cX14_readValue 115 = .ok (.goto 5, 3) := by decide +kernel
theorem dX14_readValue_92 : decode cX14_readValue 92 = .ok (.aload_n 0, 1) := by decide +kernel
theorem dX14_readValue_93 : decode cX14_readValue 93 = .ok (.ldc_w 325, 3) := by decide +kernel
theorem dX14_readValue_96 : decode cX14_readValue 96 = .ok (.invokevirtual 313, 3) := by decide +kernel
theorem dX14_readValue_99 : decode cX14_readValue 99 = .ok (.ifCond .eq 49, 3) := by decide +kernel
theorem dX14_readValue_148 : decode cX14_readValue 148 = .ok (.iload_n 1, 1) := by decide +kernel
theorem dX14_readValue_149 : decode cX14_readValue 149 = .ok (.ifCond .eq 33, 3) := by decide +kernel
theorem dX14_readValue_182 : decode cX14_readValue 182 = .ok (.iload_n 1, 1) := by decide +kernel
theorem dX14_readValue_183 : decode cX14_readValue 183 = .ok (.ifCond .ne 43, 3) := by decide +kernel
theorem dX14_readValue_226 : decode cX14_readValue 226 = .ok (.aload_n 0, 1) := by decide +kernel
theorem dX14_readValue_227 : decode cX14_readValue 227 = .ok (.iconst 1, 1) := by decide +kernel
theorem dX14_readValue_228 : decode cX14_readValue 228 = .ok (.aload_n 0, 1) := by decide +kernel
theorem dX14_readValue_229 : decode cX14_readValue 229 = .ok (.getfield 274, 3) := by decide +kernel
theorem dX14_readValue_232 : decode cX14_readValue 232 = .ok (.invokevirtual 280, 3) := by decide +kernel
theorem dX14_readValue_235 : decode cX14_readValue 235 = .ok (.iconst 0, 1) := by decide +kernel
theorem dX14_readValue_236 : decode cX14_readValue 236 = .ok (.ireturn, 1) := by decide +kernel
theorem dX14_readValue_186 : decode cX14_readValue 186 = .ok (.aload_n 0, 1) := by decide +kernel
theorem dX14_readValue_187 : decode cX14_readValue 187 = .ok (.aload_n 0, 1) := by decide +kernel
theorem dX14_readValue_188 : decode cX14_readValue 188 = .ok (.getfield 274, 3) := by decide +kernel
theorem dX14_readValue_191 : decode cX14_readValue 191 = .ok (.invokevirtual 266, 3) := by decide +kernel
theorem dX14_readValue_194 : decode cX14_readValue 194 = .ok (.bipush 91, 2) := by decide +kernel
theorem dX14_readValue_196 : decode cX14_readValue 196 = .ok (.if_icmp .ne 30, 3) := by decide +kernel
theorem dX14_readValue_199 : decode cX14_readValue 199 = .ok (.aload_n 0, 1) := by decide +kernel
theorem dX14_readValue_200 : decode cX14_readValue 200 = .ok (.dup, 1) := by decide +kernel
theorem dX14_readValue_201 : decode cX14_readValue 201 = .ok (.getfield 274, 3) := by decide +kernel
theorem dX14_readValue_204 : decode cX14_readValue 204 = .ok (.iconst 1, 1) := by decide +kernel
theorem dX14_readValue_205 : decode cX14_readValue 205 = .ok (.iadd, 1) := by decide +kernel
theorem dX14_readValue_206 : decode cX14_readValue 206 = .ok (.putfield 274, 3) := by decide +kernel
theorem dX14_readValue_209 : decode cX14_readValue 209 = .ok (.aload_n 0, 1) := by decide +kernel
theorem dX14_readValue_210 : decode cX14_readValue 210 = .ok (.ldc_w 523, 3) := by decide +kernel
theorem dX14_readValue_213 : decode cX14_readValue 213 = .ok (.invokevirtual 405, 3) := by decide +kernel
theorem dX14_readValue_216 : decode cX14_readValue 216 = .ok (.aload_n 0, 1) := by decide +kernel
theorem dX14_readValue_217 : decode cX14_readValue 217 = .ok (.bipush 34, 2) := by decide +kernel
theorem dX14_readValue_219 : decode cX14_readValue 219 = .ok (.iconst 0, 1) := by decide +kernel
theorem dX14_readValue_220 : decode cX14_readValue 220 = .ok (.iconst 0, 1) := by decide +kernel
theorem dX14_readValue_221 : decode cX14_readValue 221 = .ok (.iload_n 2, 1) := by decide +kernel
theorem dX14_readValue_222 : decode cX14_readValue 222 = .ok (.invokevirtual 387, 3) := by decide +kernel
theorem dX14_readValue_225 : decode cX14_readValue 225 = .ok (.ireturn, 1) := by decide +kernel
theorem dX14_readValue_152 : decode cX14_readValue 152 = .ok (.aload_n 0, 1) := by decide +kernel
theorem dX14_readValue_153 : decode cX14_readValue 153 = .ok (.ldc_w 321, 3) := by decide +kernel
theorem dX14_readValue_156 : decode cX14_readValue 156 = .ok (.invokevirtual 313, 3) := by decide +kernel
theorem dX14_readValue_159 : decode cX14_readValue 159 = .ok (.ifCond .eq 23, 3) := by decide +kernel
theorem dX14_readValue_162 : decode cX14_readValue 162 = .ok (.aload_n 0, 1) := by decide +kernel
theorem dX14_readValue_163 : decode cX14_readValue 163 = .ok (.dup, 1) := by decide +kernel
theorem dX14_readValue_164 : decode cX14_readValue 164 = .ok (.getfield 274, 3) := by decide +kernel
theorem dX14_readValue_167 : decode cX14_readValue 167 = .ok (.iconst 3, 1) := by decide +kernel
theorem dX14_readValue_168 : decode cX14_readValue 168 = .ok (.iadd, 1) := by decide +kernel
theorem dX14_readValue_169 : decode cX14_readValue 169 = .ok (.putfield 274, 3) := by decide +kernel
theorem dX14_readValue_172 : decode cX14_readValue 172 = .ok (.aload_n 0, 1) := by decide +kernel
theorem dX14_readValue_173 : decode cX14_readValue 173 = .ok (.bipush 56, 2) := by decide +kernel
theorem dX14_readValue_175 : decode cX14_readValue 175 = .ok (.iconst 0, 1) := by decide +kernel
theorem dX14_readValue_176 : decode cX14_readValue 176 = .ok (.iconst 0, 1) := by decide +kernel
theorem dX14_readValue_177 : decode cX14_readValue 177 = .ok (.iload_n 2, 1) := by decide +kernel
theorem dX14_readValue_178 : decode cX14_readValue 178 = .ok (.invokevirtual 387, 3) := by decide +kernel
theorem dX14_readValue_181 : decode cX14_readValue 181 = .ok (.ireturn, 1) := by decide +kernel
theorem dX14_readValue_77 : decode cX14_readValue 77 = .ok (.aload_n 0, 1) := by decide +kernel
theorem dX14_readValue_78 : decode cX14_readValue 78 = .ok (.invokevirtual 520, 3) := by decide +kernel
theorem dX14_readValue_81 : decode cX14_readValue 81 = .ok (.ireturn, 1) := by decide +kernel
theorem dX14_readValue_31 : decode cX14_readValue 31 = .ok (.aload_n 0, 1) := by decide +kernel
theorem dX14_readValue_32 : decode cX14_readValue 32 = .ok (.invokevirtual 425, 3) := by decide +kernel
theorem dX14_readValue_35 : decode cX14_readValue 35 = .ok (.aload_n 0, 1) := by decide +kernel
theorem dX14_readValue_36 : decode cX14_readValue 36 = .ok (.getfield 248, 3) := by decide +kernel
theorem dX14_readValue_39 : decode cX14_readValue 39 = .ok (.ifCond .ne 23, 3) := by decide +kernel
theorem dX14_readValue_62 : decode cX14_readValue 62 = .ok (.iconst 0, 1) := by decide +kernel
theorem dX14_readValue_63 : decode cX14_readValue 63 = .ok (.ireturn, 1) := by decide +kernel
theorem dX14_readValue_42 : decode cX14_readValue 42 = .ok (.aload_n 0, 1) := by decide +kernel
theorem dX14_readValue_43 : decode cX14_readValue 43 = .ok (.aload_n 0, 1) := by decide +kernel
theorem dX14_readValue_44 : decode cX14_readValue 44 = .ok (.getfield 263, 3) := by decide +kernel
theorem dX14_readValue_47 : decode cX14_readValue 47 = .ok (.aload_n 0, 1) := by decide +kernel
theorem dX14_readValue_48 : decode cX14_readValue 48 = .ok (.getfield 341, 3) := by decide +kernel
theorem dX14_readValue_51 : decode cX14_readValue 51 = .ok (.aload_n 0, 1) := by decide +kernel
theorem dX14_readValue_52 : decode cX14_readValue 52 = .ok (.getfield 344, 3) := by decide +kernel
theorem dX14_readValue_55 : decode cX14_readValue 55 = .ok (.iload_n 2, 1) := by decide +kernel
theorem dX14_readValue_56 : decode cX14_readValue 56 = .ok (.invokevirtual 516, 3) := by decide +kernel
theorem dX14_readValue_59 : decode cX14_readValue 59 = .ok (.goto 4, 3) := by decide +kernel
theorem dX14_readValue_11 : decode cX14_readValue 11 = .ok (.iconst 0, 1) := by decide +kernel
theorem dX14_readValue_12 : decode cX14_readValue 12 = .ok (.ireturn, 1) := by decide +kernel
def pre_X14_readValue (σ : rS) (x1 : Int) (gg : Nat) (U : Int) (g : Nat → Int → Int) : Prop := rR σ 7 = gg ∧ rgk gg ∧ FPZ σ gg U ∧ rNMp σ ∧ PNp σ ∧ rfk (rR σ 15) ∧ Im (fz σ = 0) (GS σ gg g) ∧ (x1 = 0 ∨ x1 = 1)
def post_X14_readValue (σ : rS) (x1 : Int) (gg : Nat) (U : Int) (g : Nat → Int → Int) (r : Int) (σ' : rS) : Prop := FQZ σ σ' gg ∧ rNMp σ' ∧ PNp σ' ∧ 0 ≤ r ∧ r < (rF σ' gg 7) ∧ Im (fz σ' = 0) (RG (RT σ) σ' gg 0) ∧ ∃ h, Im (fz σ' = 0) (GS σ' gg h ∧ GK g h (rF σ gg 7) (rF σ' gg 7) 0 ∧ NR σ' gg h 19 r ((rF σ gg 7)) 0 9000 0 ∧ ok1)
def VC_X14_readValue (σ : rS) (x1 : Int) (gg : Nat) (U : Int) (g : Nat → Int → Int) (Q : Int → rS → Prop) : Prop := rgk (rR σ 7) ∧ pre_X14_skip σ ∧ (∀ (s1 : rS), rWF s1 → (rNMp σ → rNMp s1) → (PNp σ → PNp s1) → rR s1 7 = rR σ 7 → rR s1 15 = rR σ 15 → rF s1 0 14 = rF σ 0 14 → rF s1 0 16 = rF σ 0 16 → rF s1 0 19 = rF σ 0 19 → rF s1 0 21 = rF σ 0 21 → rF s1 0 22 = rF σ 0 22 → rF s1 0 23 = rF σ 0 23 → rF s1 0 28 = rF σ 0 28 → rF s1 0 29 = rF σ 0 29 → rF s1 0 30 = rF σ 0 30 → rF s1 0 31 = rF σ 0 31 → rF s1 0 32 = rF σ 0 32 → rF s1 0 33 = rF σ 0 33 → rF s1 0 38 = rF σ 0 38 → rF s1 0 39 = rF σ 0 39 → (∀ i, rA s1 1027 i = rA σ 1027 i) → (∀ i, rA s1 1034 i = rA σ 1034 i) → (∀ i, rA s1 1035 i = rA σ 1035 i) → (∀ i, rA s1 1040 i = rA σ 1040 i) → rF s1 (rR σ 7) 7 = rF σ (rR σ 7) 7 → rF s1 (rR σ 7) 9 = rF σ (rR σ 7) 9 → rF s1 (rR σ 7) 12 = rF σ (rR σ 7) 12 → rF s1 (rR σ 7) 32 = rF σ (rR σ 7) 32 → rF s1 (rR σ 7) 38 = rF σ (rR σ 7) 38 → (∀ i, rA s1 (1000 * ((rR σ 7) + 1) + 10) i = rA σ (1000 * ((rR σ 7) + 1) + 10) i) → (∀ i, rA s1 (1000 * ((rR σ 7) + 1) + 11) i = rA σ (1000 * ((rR σ 7) + 1) + 11) i) → FLk σ s1 → RG σ s1 (rR σ 7) 0 → post_X14_skip σ s1 → (rng (rF s1 0 10) → (((rF s1 0 10) = 0 → (rng (rF s1 0 17) → pre_X14_fc s1 (rF s1 0 17) ∧ (∀ (v23 : Int), rng v23 → post_X14_fc s1 (rF s1 0 17) v23 → ((¬ v23 = 34 → pre_X14_fc s1 (rF s1 0 17) ∧ (∀ (v69 : Int), rng v69 → post_X14_fc s1 (rF s1 0 17) v69 → ((¬ v69 = 123 → pre_X14_isFileWord_f s1 4 ∧ (∀ (v86 : Int), rng v86 → post_X14_isFileWord_f s1 4 v86 → ((¬ v86 = 0 → pre_X14_isFileWord_f s1 4 ∧ (∀ (v107 : Int), rng v107 → post_X14_isFileWord_f s1 4 v107 → ((v107 = 0 → pre_X14_node_t s1 32 0 0 (rF s1 0 17) gg ∧ (∀ (v123 : Int) (s123 : rS), rng v123 → rWF s123 → (rNMp s1 → rNMp s123) → rR s123 7 = rR s1 7 → rR s123 15 = rR s1 15 → rF s123 0 10 = rF s1 0 10 → rF s123 0 14 = rF s1 0 14 → rF s123 0 16 = rF s1 0 16 → rF s123 0 17 = rF s1 0 17 → rF s123 0 19 = rF s1 0 19 → rF s123 0 21 = rF s1 0 21 → rF s123 0 22 = rF s1 0 22 → rF s123 0 23 = rF s1 0 23 → rF s123 0 28 = rF s1 0 28 → rF s123 0 29 = rF s1 0 29 → rF s123 0 30 = rF s1 0 30 → rF s123 0 31 = rF s1 0 31 → rF s123 0 32 = rF s1 0 32 → rF s123 0 33 = rF s1 0 33 → rF s123 0 38 = rF s1 0 38 → rF s123 0 39 = rF s1 0 39 → (∀ i, rA s123 1027 i = rA s1 1027 i) → (∀ i, rA s123 1034 i = rA s1 1034 i) → (∀ i, rA s123 1035 i = rA s1 1035 i) → (∀ i, rA s123 1040 i = rA s1 1040 i) → rF s123 (rR σ 7) 9 = rF s1 (rR σ 7) 9 → rF s123 (rR σ 7) 12 = rF s1 (rR σ 7) 12 → rF s123 (rR σ 7) 32 = rF s1 (rR σ 7) 32 → rF s123 (rR σ 7) 38 = rF s1 (rR σ 7) 38 → (∀ i, rA s123 (1000 * ((rR σ 7) + 1) + 10) i = rA s1 (1000 * ((rR σ 7) + 1) + 10) i) → (∀ i, rA s123 (1000 * ((rR σ 7) + 1) + 11) i = rA s1 (1000 * ((rR σ 7) + 1) + 11) i) → FLk s1 s123 → fz s123 = fz s1 → post_X14_node_t s1 32 0 0 (rF s1 0 17) gg v123 s123 → rfk (rR σ 15) ∧ (rng (rF s123 0 16) → pre_X14_wordEnd_t s123 (rR σ 15) 4000 (rF s123 0 16) (rF s1 0 17) ∧ (∀ (v140 : Int), rng v140 → post_X14_wordEnd_t s123 (rR σ 15) 4000 (rF s123 0 16) (rF s1 0 17) v140 → Q v123 (sF s123 0 17 v140))))) ∧ (¬ v107 = 0 → pre_X14_node_t s1 31 0 0 (rF s1 0 17) gg ∧ (∀ (v123 : Int) (s123 : rS), rng v123 → rWF s123 → (rNMp s1 → rNMp s123) → rR s123 7 = rR s1 7 → rR s123 15 = rR s1 15 → rF s123 0 10 = rF s1 0 10 → rF s123 0 14 = rF s1 0 14 → rF s123 0 16 = rF s1 0 16 → rF s123 0 17 = rF s1 0 17 → rF s123 0 19 = rF s1 0 19 → rF s123 0 21 = rF s1 0 21 → rF s123 0 22 = rF s1 0 22 → rF s123 0 23 = rF s1 0 23 → rF s123 0 28 = rF s1 0 28 → rF s123 0 29 = rF s1 0 29 → rF s123 0 30 = rF s1 0 30 → rF s123 0 31 = rF s1 0 31 → rF s123 0 32 = rF s1 0 32 → rF s123 0 33 = rF s1 0 33 → rF s123 0 38 = rF s1 0 38 → rF s123 0 39 = rF s1 0 39 → (∀ i, rA s123 1027 i = rA s1 1027 i) → (∀ i, rA s123 1034 i = rA s1 1034 i) → (∀ i, rA s123 1035 i = rA s1 1035 i) → (∀ i, rA s123 1040 i = rA s1 1040 i) → rF s123 (rR σ 7) 9 = rF s1 (rR σ 7) 9 → rF s123 (rR σ 7) 12 = rF s1 (rR σ 7) 12 → rF s123 (rR σ 7) 32 = rF s1 (rR σ 7) 32 → rF s123 (rR σ 7) 38 = rF s1 (rR σ 7) 38 → (∀ i, rA s123 (1000 * ((rR σ 7) + 1) + 10) i = rA s1 (1000 * ((rR σ 7) + 1) + 10) i) → (∀ i, rA s123 (1000 * ((rR σ 7) + 1) + 11) i = rA s1 (1000 * ((rR σ 7) + 1) + 11) i) → FLk s1 s123 → fz s123 = fz s1 → post_X14_node_t s1 31 0 0 (rF s1 0 17) gg v123 s123 → rfk (rR σ 15) ∧ (rng (rF s123 0 16) → pre_X14_wordEnd_t s123 (rR σ 15) 4000 (rF s123 0 16) (rF s1 0 17) ∧ (∀ (v140 : Int), rng v140 → post_X14_wordEnd_t s123 (rR σ 15) 4000 (rF s123 0 16) (rF s1 0 17) v140 → Q v123 (sF s123 0 17 v140)))))))) ∧ (v86 = 0 → pre_X14_isFileWord_f s1 5 ∧ (∀ (v96 : Int), rng v96 → post_X14_isFileWord_f s1 5 v96 → ((v96 = 0 → ((x1 = 0 → ((¬ x1 = 0 → pre_X14_bad s1 1 (rF s1 0 17) ∧ (∀ (s232 : rS), rWF s232 → (rNMp s1 → rNMp s232) → (PNp s1 → PNp s232) → rR s232 7 = rR s1 7 → rR s232 15 = rR s1 15 → rF s232 0 14 = rF s1 0 14 → rF s232 0 16 = rF s1 0 16 → rF s232 0 17 = rF s1 0 17 → rF s232 0 19 = rF s1 0 19 → rF s232 0 21 = rF s1 0 21 → rF s232 0 22 = rF s1 0 22 → rF s232 0 23 = rF s1 0 23 → rF s232 0 28 = rF s1 0 28 → rF s232 0 29 = rF s1 0 29 → rF s232 0 30 = rF s1 0 30 → rF s232 0 31 = rF s1 0 31 → rF s232 0 32 = rF s1 0 32 → rF s232 0 33 = rF s1 0 33 → rF s232 0 38 = rF s1 0 38 → rF s232 0 39 = rF s1 0 39 → (∀ i, rA s232 1027 i = rA s1 1027 i) → (∀ i, rA s232 1034 i = rA s1 1034 i) → (∀ i, rA s232 1035 i = rA s1 1035 i) → (∀ i, rA s232 1040 i = rA s1 1040 i) → rF s232 (rR σ 7) 7 = rF s1 (rR σ 7) 7 → rF s232 (rR σ 7) 9 = rF s1 (rR σ 7) 9 → rF s232 (rR σ 7) 12 = rF s1 (rR σ 7) 12 → rF s232 (rR σ 7) 32 = rF s1 (rR σ 7) 32 → rF s232 (rR σ 7) 38 = rF s1 (rR σ 7) 38 → (∀ i, rA s232 (1000 * ((rR σ 7) + 1) + 10) i = rA s1 (1000 * ((rR σ 7) + 1) + 10) i) → (∀ i, rA s232 (1000 * ((rR σ 7) + 1) + 11) i = rA s1 (1000 * ((rR σ 7) + 1) + 11) i) → FLk s1 s232 → RG s1 s232 (rR σ 7) 0 → post_X14_bad s1 1 (rF s1 0 17) s232 → Q 0 s232)) ∧ (x1 = 0 → pre_X14_fc s1 (rF s1 0 17) ∧ (∀ (v191 : Int), rng v191 → post_X14_fc s1 (rF s1 0 17) v191 → ((¬ v191 = 91 → pre_X14_bad s1 1 (rF s1 0 17) ∧ (∀ (s232 : rS), rWF s232 → (rNMp s1 → rNMp s232) → (PNp s1 → PNp s232) → rR s232 7 = rR s1 7 → rR s232 15 = rR s1 15 → rF s232 0 14 = rF s1 0 14 → rF s232 0 16 = rF s1 0 16 → rF s232 0 17 = rF s1 0 17 → rF s232 0 19 = rF s1 0 19 → rF s232 0 21 = rF s1 0 21 → rF s232 0 22 = rF s1 0 22 → rF s232 0 23 = rF s1 0 23 → rF s232 0 28 = rF s1 0 28 → rF s232 0 29 = rF s1 0 29 → rF s232 0 30 = rF s1 0 30 → rF s232 0 31 = rF s1 0 31 → rF s232 0 32 = rF s1 0 32 → rF s232 0 33 = rF s1 0 33 → rF s232 0 38 = rF s1 0 38 → rF s232 0 39 = rF s1 0 39 → (∀ i, rA s232 1027 i = rA s1 1027 i) → (∀ i, rA s232 1034 i = rA s1 1034 i) → (∀ i, rA s232 1035 i = rA s1 1035 i) → (∀ i, rA s232 1040 i = rA s1 1040 i) → rF s232 (rR σ 7) 7 = rF s1 (rR σ 7) 7 → rF s232 (rR σ 7) 9 = rF s1 (rR σ 7) 9 → rF s232 (rR σ 7) 12 = rF s1 (rR σ 7) 12 → rF s232 (rR σ 7) 32 = rF s1 (rR σ 7) 32 → rF s232 (rR σ 7) 38 = rF s1 (rR σ 7) 38 → (∀ i, rA s232 (1000 * ((rR σ 7) + 1) + 10) i = rA s1 (1000 * ((rR σ 7) + 1) + 10) i) → (∀ i, rA s232 (1000 * ((rR σ 7) + 1) + 11) i = rA s1 (1000 * ((rR σ 7) + 1) + 11) i) → FLk s1 s232 → RG s1 s232 (rR σ 7) 0 → post_X14_bad s1 1 (rF s1 0 17) s232 → Q 0 s232)) ∧ (v191 = 91 → rng ((rF s1 0 17) + 1) ∧ pre_X14_sign (sF s1 0 17 ((rF s1 0 17) + 1)) 1 ∧ (∀ (s213 : rS), rWF s213 → (rNMp (sF s1 0 17 ((rF s1 0 17) + 1)) → rNMp s213) → (PNp (sF s1 0 17 ((rF s1 0 17) + 1)) → PNp s213) → rR s213 7 = rR (sF s1 0 17 ((rF s1 0 17) + 1)) 7 → rR s213 15 = rR (sF s1 0 17 ((rF s1 0 17) + 1)) 15 → rF s213 0 14 = rF (sF s1 0 17 ((rF s1 0 17) + 1)) 0 14 → rF s213 0 16 = rF (sF s1 0 17 ((rF s1 0 17) + 1)) 0 16 → rF s213 0 19 = rF (sF s1 0 17 ((rF s1 0 17) + 1)) 0 19 → rF s213 0 21 = rF (sF s1 0 17 ((rF s1 0 17) + 1)) 0 21 → rF s213 0 22 = rF (sF s1 0 17 ((rF s1 0 17) + 1)) 0 22 → rF s213 0 23 = rF (sF s1 0 17 ((rF s1 0 17) + 1)) 0 23 → rF s213 0 28 = rF (sF s1 0 17 ((rF s1 0 17) + 1)) 0 28 → rF s213 0 29 = rF (sF s1 0 17 ((rF s1 0 17) + 1)) 0 29 → rF s213 0 30 = rF (sF s1 0 17 ((rF s1 0 17) + 1)) 0 30 → rF s213 0 31 = rF (sF s1 0 17 ((rF s1 0 17) + 1)) 0 31 → rF s213 0 32 = rF (sF s1 0 17 ((rF s1 0 17) + 1)) 0 32 → rF s213 0 33 = rF (sF s1 0 17 ((rF s1 0 17) + 1)) 0 33 → rF s213 0 38 = rF (sF s1 0 17 ((rF s1 0 17) + 1)) 0 38 → rF s213 0 39 = rF (sF s1 0 17 ((rF s1 0 17) + 1)) 0 39 → (∀ i, rA s213 1027 i = rA (sF s1 0 17 ((rF s1 0 17) + 1)) 1027 i) → (∀ i, rA s213 1034 i = rA (sF s1 0 17 ((rF s1 0 17) + 1)) 1034 i) → (∀ i, rA s213 1035 i = rA (sF s1 0 17 ((rF s1 0 17) + 1)) 1035 i) → (∀ i, rA s213 1040 i = rA (sF s1 0 17 ((rF s1 0 17) + 1)) 1040 i) → rF s213 (rR σ 7) 7 = rF (sF s1 0 17 ((rF s1 0 17) + 1)) (rR σ 7) 7 → rF s213 (rR σ 7) 9 = rF (sF s1 0 17 ((rF s1 0 17) + 1)) (rR σ 7) 9 → rF s213 (rR σ 7) 12 = rF (sF s1 0 17 ((rF s1 0 17) + 1)) (rR σ 7) 12 → rF s213 (rR σ 7) 32 = rF (sF s1 0 17 ((rF s1 0 17) + 1)) (rR σ 7) 32 → rF s213 (rR σ 7) 38 = rF (sF s1 0 17 ((rF s1 0 17) + 1)) (rR σ 7) 38 → (∀ i, rA s213 (1000 * ((rR σ 7) + 1) + 10) i = rA (sF s1 0 17 ((rF s1 0 17) + 1)) (1000 * ((rR σ 7) + 1) + 10) i) → (∀ i, rA s213 (1000 * ((rR σ 7) + 1) + 11) i = rA (sF s1 0 17 ((rF s1 0 17) + 1)) (1000 * ((rR σ 7) + 1) + 11) i) → FLk (sF s1 0 17 ((rF s1 0 17) + 1)) s213 → RG (sF s1 0 17 ((rF s1 0 17) + 1)) s213 (rR σ 7) 0 → post_X14_sign (sF s1 0 17 ((rF s1 0 17) + 1)) 1 s213 → pre_X14_node_t s213 34 0 0 (rF s1 0 17) gg ∧ (∀ (v222 : Int) (s222 : rS), rng v222 → rWF s222 → (rNMp s213 → rNMp s222) → rR s222 7 = rR s213 7 → rR s222 15 = rR s213 15 → rF s222 0 10 = rF s213 0 10 → rF s222 0 14 = rF s213 0 14 → rF s222 0 16 = rF s213 0 16 → rF s222 0 17 = rF s213 0 17 → rF s222 0 19 = rF s213 0 19 → rF s222 0 21 = rF s213 0 21 → rF s222 0 22 = rF s213 0 22 → rF s222 0 23 = rF s213 0 23 → rF s222 0 28 = rF s213 0 28 → rF s222 0 29 = rF s213 0 29 → rF s222 0 30 = rF s213 0 30 → rF s222 0 31 = rF s213 0 31 → rF s222 0 32 = rF s213 0 32 → rF s222 0 33 = rF s213 0 33 → rF s222 0 38 = rF s213 0 38 → rF s222 0 39 = rF s213 0 39 → (∀ i, rA s222 1027 i = rA s213 1027 i) → (∀ i, rA s222 1034 i = rA s213 1034 i) → (∀ i, rA s222 1035 i = rA s213 1035 i) → (∀ i, rA s222 1040 i = rA s213 1040 i) → rF s222 (rR σ 7) 9 = rF s213 (rR σ 7) 9 → rF s222 (rR σ 7) 12 = rF s213 (rR σ 7) 12 → rF s222 (rR σ 7) 32 = rF s213 (rR σ 7) 32 → rF s222 (rR σ 7) 38 = rF s213 (rR σ 7) 38 → (∀ i, rA s222 (1000 * ((rR σ 7) + 1) + 10) i = rA s213 (1000 * ((rR σ 7) + 1) + 10) i) → (∀ i, rA s222 (1000 * ((rR σ 7) + 1) + 11) i = rA s213 (1000 * ((rR σ 7) + 1) + 11) i) → FLk s213 s222 → fz s222 = fz s213 → post_X14_node_t s213 34 0 0 (rF s1 0 17) gg v222 s222 → Q v222 s222)))))))) ∧ (¬ x1 = 0 → pre_X14_isFileWord_f s1 3 ∧ (∀ (v156 : Int), rng v156 → post_X14_isFileWord_f s1 3 v156 → ((v156 = 0 → ((¬ x1 = 0 → pre_X14_bad s1 1 (rF s1 0 17) ∧ (∀ (s232 : rS), rWF s232 → (rNMp s1 → rNMp s232) → (PNp s1 → PNp s232) → rR s232 7 = rR s1 7 → rR s232 15 = rR s1 15 → rF s232 0 14 = rF s1 0 14 → rF s232 0 16 = rF s1 0 16 → rF s232 0 17 = rF s1 0 17 → rF s232 0 19 = rF s1 0 19 → rF s232 0 21 = rF s1 0 21 → rF s232 0 22 = rF s1 0 22 → rF s232 0 23 = rF s1 0 23 → rF s232 0 28 = rF s1 0 28 → rF s232 0 29 = rF s1 0 29 → rF s232 0 30 = rF s1 0 30 → rF s232 0 31 = rF s1 0 31 → rF s232 0 32 = rF s1 0 32 → rF s232 0 33 = rF s1 0 33 → rF s232 0 38 = rF s1 0 38 → rF s232 0 39 = rF s1 0 39 → (∀ i, rA s232 1027 i = rA s1 1027 i) → (∀ i, rA s232 1034 i = rA s1 1034 i) → (∀ i, rA s232 1035 i = rA s1 1035 i) → (∀ i, rA s232 1040 i = rA s1 1040 i) → rF s232 (rR σ 7) 7 = rF s1 (rR σ 7) 7 → rF s232 (rR σ 7) 9 = rF s1 (rR σ 7) 9 → rF s232 (rR σ 7) 12 = rF s1 (rR σ 7) 12 → rF s232 (rR σ 7) 32 = rF s1 (rR σ 7) 32 → rF s232 (rR σ 7) 38 = rF s1 (rR σ 7) 38 → (∀ i, rA s232 (1000 * ((rR σ 7) + 1) + 10) i = rA s1 (1000 * ((rR σ 7) + 1) + 10) i) → (∀ i, rA s232 (1000 * ((rR σ 7) + 1) + 11) i = rA s1 (1000 * ((rR σ 7) + 1) + 11) i) → FLk s1 s232 → RG s1 s232 (rR σ 7) 0 → post_X14_bad s1 1 (rF s1 0 17) s232 → Q 0 s232)) ∧ (x1 = 0 → pre_X14_fc s1 (rF s1 0 17) ∧ (∀ (v191 : Int), rng v191 → post_X14_fc s1 (rF s1 0 17) v191 → ((¬ v191 = 91 → pre_X14_bad s1 1 (rF s1 0 17) ∧ (∀ (s232 : rS), rWF s232 → (rNMp s1 → rNMp s232) → (PNp s1 → PNp s232) → rR s232 7 = rR s1 7 → rR s232 15 = rR s1 15 → rF s232 0 14 = rF s1 0 14 → rF s232 0 16 = rF s1 0 16 → rF s232 0 17 = rF s1 0 17 → rF s232 0 19 = rF s1 0 19 → rF s232 0 21 = rF s1 0 21 → rF s232 0 22 = rF s1 0 22 → rF s232 0 23 = rF s1 0 23 → rF s232 0 28 = rF s1 0 28 → rF s232 0 29 = rF s1 0 29 → rF s232 0 30 = rF s1 0 30 → rF s232 0 31 = rF s1 0 31 → rF s232 0 32 = rF s1 0 32 → rF s232 0 33 = rF s1 0 33 → rF s232 0 38 = rF s1 0 38 → rF s232 0 39 = rF s1 0 39 → (∀ i, rA s232 1027 i = rA s1 1027 i) → (∀ i, rA s232 1034 i = rA s1 1034 i) → (∀ i, rA s232 1035 i = rA s1 1035 i) → (∀ i, rA s232 1040 i = rA s1 1040 i) → rF s232 (rR σ 7) 7 = rF s1 (rR σ 7) 7 → rF s232 (rR σ 7) 9 = rF s1 (rR σ 7) 9 → rF s232 (rR σ 7) 12 = rF s1 (rR σ 7) 12 → rF s232 (rR σ 7) 32 = rF s1 (rR σ 7) 32 → rF s232 (rR σ 7) 38 = rF s1 (rR σ 7) 38 → (∀ i, rA s232 (1000 * ((rR σ 7) + 1) + 10) i = rA s1 (1000 * ((rR σ 7) + 1) + 10) i) → (∀ i, rA s232 (1000 * ((rR σ 7) + 1) + 11) i = rA s1 (1000 * ((rR σ 7) + 1) + 11) i) → FLk s1 s232 → RG s1 s232 (rR σ 7) 0 → post_X14_bad s1 1 (rF s1 0 17) s232 → Q 0 s232)) ∧ (v191 = 91 → rng ((rF s1 0 17) + 1) ∧ pre_X14_sign (sF s1 0 17 ((rF s1 0 17) + 1)) 1 ∧ (∀ (s213 : rS), rWF s213 → (rNMp (sF s1 0 17 ((rF s1 0 17) + 1)) → rNMp s213) → (PNp (sF s1 0 17 ((rF s1 0 17) + 1)) → PNp s213) → rR s213 7 = rR (sF s1 0 17 ((rF s1 0 17) + 1)) 7 → rR s213 15 = rR (sF s1 0 17 ((rF s1 0 17) + 1)) 15 → rF s213 0 14 = rF (sF s1 0 17 ((rF s1 0 17) + 1)) 0 14 → rF s213 0 16 = rF (sF s1 0 17 ((rF s1 0 17) + 1)) 0 16 → rF s213 0 19 = rF (sF s1 0 17 ((rF s1 0 17) + 1)) 0 19 → rF s213 0 21 = rF (sF s1 0 17 ((rF s1 0 17) + 1)) 0 21 → rF s213 0 22 = rF (sF s1 0 17 ((rF s1 0 17) + 1)) 0 22 → rF s213 0 23 = rF (sF s1 0 17 ((rF s1 0 17) + 1)) 0 23 → rF s213 0 28 = rF (sF s1 0 17 ((rF s1 0 17) + 1)) 0 28 → rF s213 0 29 = rF (sF s1 0 17 ((rF s1 0 17) + 1)) 0 29 → rF s213 0 30 = rF (sF s1 0 17 ((rF s1 0 17) + 1)) 0 30 → rF s213 0 31 = rF (sF s1 0 17 ((rF s1 0 17) + 1)) 0 31 → rF s213 0 32 = rF (sF s1 0 17 ((rF s1 0 17) + 1)) 0 32 → rF s213 0 33 = rF (sF s1 0 17 ((rF s1 0 17) + 1)) 0 33 → rF s213 0 38 = rF (sF s1 0 17 ((rF s1 0 17) + 1)) 0 38 → rF s213 0 39 = rF (sF s1 0 17 ((rF s1 0 17) + 1)) 0 39 → (∀ i, rA s213 1027 i = rA (sF s1 0 17 ((rF s1 0 17) + 1)) 1027 i) → (∀ i, rA s213 1034 i = rA (sF s1 0 17 ((rF s1 0 17) + 1)) 1034 i) → (∀ i, rA s213 1035 i = rA (sF s1 0 17 ((rF s1 0 17) + 1)) 1035 i) → (∀ i, rA s213 1040 i = rA (sF s1 0 17 ((rF s1 0 17) + 1)) 1040 i) → rF s213 (rR σ 7) 7 = rF (sF s1 0 17 ((rF s1 0 17) + 1)) (rR σ 7) 7 → rF s213 (rR σ 7) 9 = rF (sF s1 0 17 ((rF s1 0 17) + 1)) (rR σ 7) 9 → rF s213 (rR σ 7) 12 = rF (sF s1 0 17 ((rF s1 0 17) + 1)) (rR σ 7) 12 → rF s213 (rR σ 7) 32 = rF (sF s1 0 17 ((rF s1 0 17) + 1)) (rR σ 7) 32 → rF s213 (rR σ 7) 38 = rF (sF s1 0 17 ((rF s1 0 17) + 1)) (rR σ 7) 38 → (∀ i, rA s213 (1000 * ((rR σ 7) + 1) + 10) i = rA (sF s1 0 17 ((rF s1 0 17) + 1)) (1000 * ((rR σ 7) + 1) + 10) i) → (∀ i, rA s213 (1000 * ((rR σ 7) + 1) + 11) i = rA (sF s1 0 17 ((rF s1 0 17) + 1)) (1000 * ((rR σ 7) + 1) + 11) i) → FLk (sF s1 0 17 ((rF s1 0 17) + 1)) s213 → RG (sF s1 0 17 ((rF s1 0 17) + 1)) s213 (rR σ 7) 0 → post_X14_sign (sF s1 0 17 ((rF s1 0 17) + 1)) 1 s213 → pre_X14_node_t s213 34 0 0 (rF s1 0 17) gg ∧ (∀ (v222 : Int) (s222 : rS), rng v222 → rWF s222 → (rNMp s213 → rNMp s222) → rR s222 7 = rR s213 7 → rR s222 15 = rR s213 15 → rF s222 0 10 = rF s213 0 10 → rF s222 0 14 = rF s213 0 14 → rF s222 0 16 = rF s213 0 16 → rF s222 0 17 = rF s213 0 17 → rF s222 0 19 = rF s213 0 19 → rF s222 0 21 = rF s213 0 21 → rF s222 0 22 = rF s213 0 22 → rF s222 0 23 = rF s213 0 23 → rF s222 0 28 = rF s213 0 28 → rF s222 0 29 = rF s213 0 29 → rF s222 0 30 = rF s213 0 30 → rF s222 0 31 = rF s213 0 31 → rF s222 0 32 = rF s213 0 32 → rF s222 0 33 = rF s213 0 33 → rF s222 0 38 = rF s213 0 38 → rF s222 0 39 = rF s213 0 39 → (∀ i, rA s222 1027 i = rA s213 1027 i) → (∀ i, rA s222 1034 i = rA s213 1034 i) → (∀ i, rA s222 1035 i = rA s213 1035 i) → (∀ i, rA s222 1040 i = rA s213 1040 i) → rF s222 (rR σ 7) 9 = rF s213 (rR σ 7) 9 → rF s222 (rR σ 7) 12 = rF s213 (rR σ 7) 12 → rF s222 (rR σ 7) 32 = rF s213 (rR σ 7) 32 → rF s222 (rR σ 7) 38 = rF s213 (rR σ 7) 38 → (∀ i, rA s222 (1000 * ((rR σ 7) + 1) + 10) i = rA s213 (1000 * ((rR σ 7) + 1) + 10) i) → (∀ i, rA s222 (1000 * ((rR σ 7) + 1) + 11) i = rA s213 (1000 * ((rR σ 7) + 1) + 11) i) → FLk s213 s222 → fz s222 = fz s213 → post_X14_node_t s213 34 0 0 (rF s1 0 17) gg v222 s222 → Q v222 s222)))))))) ∧ (¬ v156 = 0 → rng ((rF s1 0 17) + 3) ∧ pre_X14_node_t (sF s1 0 17 ((rF s1 0 17) + 3)) 56 0 0 (rF s1 0 17) gg ∧ (∀ (v178 : Int) (s178 : rS), rng v178 → rWF s178 → (rNMp (sF s1 0 17 ((rF s1 0 17) + 3)) → rNMp s178) → rR s178 7 = rR (sF s1 0 17 ((rF s1 0 17) + 3)) 7 → rR s178 15 = rR (sF s1 0 17 ((rF s1 0 17) + 3)) 15 → rF s178 0 10 = rF (sF s1 0 17 ((rF s1 0 17) + 3)) 0 10 → rF s178 0 14 = rF (sF s1 0 17 ((rF s1 0 17) + 3)) 0 14 → rF s178 0 16 = rF (sF s1 0 17 ((rF s1 0 17) + 3)) 0 16 → rF s178 0 17 = rF (sF s1 0 17 ((rF s1 0 17) + 3)) 0 17 → rF s178 0 19 = rF (sF s1 0 17 ((rF s1 0 17) + 3)) 0 19 → rF s178 0 21 = rF (sF s1 0 17 ((rF s1 0 17) + 3)) 0 21 → rF s178 0 22 = rF (sF s1 0 17 ((rF s1 0 17) + 3)) 0 22 → rF s178 0 23 = rF (sF s1 0 17 ((rF s1 0 17) + 3)) 0 23 → rF s178 0 28 = rF (sF s1 0 17 ((rF s1 0 17) + 3)) 0 28 → rF s178 0 29 = rF (sF s1 0 17 ((rF s1 0 17) + 3)) 0 29 → rF s178 0 30 = rF (sF s1 0 17 ((rF s1 0 17) + 3)) 0 30 → rF s178 0 31 = rF (sF s1 0 17 ((rF s1 0 17) + 3)) 0 31 → rF s178 0 32 = rF (sF s1 0 17 ((rF s1 0 17) + 3)) 0 32 → rF s178 0 33 = rF (sF s1 0 17 ((rF s1 0 17) + 3)) 0 33 → rF s178 0 38 = rF (sF s1 0 17 ((rF s1 0 17) + 3)) 0 38 → rF s178 0 39 = rF (sF s1 0 17 ((rF s1 0 17) + 3)) 0 39 → (∀ i, rA s178 1027 i = rA (sF s1 0 17 ((rF s1 0 17) + 3)) 1027 i) → (∀ i, rA s178 1034 i = rA (sF s1 0 17 ((rF s1 0 17) + 3)) 1034 i) → (∀ i, rA s178 1035 i = rA (sF s1 0 17 ((rF s1 0 17) + 3)) 1035 i) → (∀ i, rA s178 1040 i = rA (sF s1 0 17 ((rF s1 0 17) + 3)) 1040 i) → rF s178 (rR σ 7) 9 = rF (sF s1 0 17 ((rF s1 0 17) + 3)) (rR σ 7) 9 → rF s178 (rR σ 7) 12 = rF (sF s1 0 17 ((rF s1 0 17) + 3)) (rR σ 7) 12 → rF s178 (rR σ 7) 32 = rF (sF s1 0 17 ((rF s1 0 17) + 3)) (rR σ 7) 32 → rF s178 (rR σ 7) 38 = rF (sF s1 0 17 ((rF s1 0 17) + 3)) (rR σ 7) 38 → (∀ i, rA s178 (1000 * ((rR σ 7) + 1) + 10) i = rA (sF s1 0 17 ((rF s1 0 17) + 3)) (1000 * ((rR σ 7) + 1) + 10) i) → (∀ i, rA s178 (1000 * ((rR σ 7) + 1) + 11) i = rA (sF s1 0 17 ((rF s1 0 17) + 3)) (1000 * ((rR σ 7) + 1) + 11) i) → FLk (sF s1 0 17 ((rF s1 0 17) + 3)) s178 → fz s178 = fz (sF s1 0 17 ((rF s1 0 17) + 3)) → post_X14_node_t (sF s1 0 17 ((rF s1 0 17) + 3)) 56 0 0 (rF s1 0 17) gg v178 s178 → Q v178 s178))))))) ∧ (¬ v96 = 0 → pre_X14_isFileWord_f s1 4 ∧ (∀ (v107 : Int), rng v107 → post_X14_isFileWord_f s1 4 v107 → ((v107 = 0 → pre_X14_node_t s1 32 0 0 (rF s1 0 17) gg ∧ (∀ (v123 : Int) (s123 : rS), rng v123 → rWF s123 → (rNMp s1 → rNMp s123) → rR s123 7 = rR s1 7 → rR s123 15 = rR s1 15 → rF s123 0 10 = rF s1 0 10 → rF s123 0 14 = rF s1 0 14 → rF s123 0 16 = rF s1 0 16 → rF s123 0 17 = rF s1 0 17 → rF s123 0 19 = rF s1 0 19 → rF s123 0 21 = rF s1 0 21 → rF s123 0 22 = rF s1 0 22 → rF s123 0 23 = rF s1 0 23 → rF s123 0 28 = rF s1 0 28 → rF s123 0 29 = rF s1 0 29 → rF s123 0 30 = rF s1 0 30 → rF s123 0 31 = rF s1 0 31 → rF s123 0 32 = rF s1 0 32 → rF s123 0 33 = rF s1 0 33 → rF s123 0 38 = rF s1 0 38 → rF s123 0 39 = rF s1 0 39 → (∀ i, rA s123 1027 i = rA s1 1027 i) → (∀ i, rA s123 1034 i = rA s1 1034 i) → (∀ i, rA s123 1035 i = rA s1 1035 i) → (∀ i, rA s123 1040 i = rA s1 1040 i) → rF s123 (rR σ 7) 9 = rF s1 (rR σ 7) 9 → rF s123 (rR σ 7) 12 = rF s1 (rR σ 7) 12 → rF s123 (rR σ 7) 32 = rF s1 (rR σ 7) 32 → rF s123 (rR σ 7) 38 = rF s1 (rR σ 7) 38 → (∀ i, rA s123 (1000 * ((rR σ 7) + 1) + 10) i = rA s1 (1000 * ((rR σ 7) + 1) + 10) i) → (∀ i, rA s123 (1000 * ((rR σ 7) + 1) + 11) i = rA s1 (1000 * ((rR σ 7) + 1) + 11) i) → FLk s1 s123 → fz s123 = fz s1 → post_X14_node_t s1 32 0 0 (rF s1 0 17) gg v123 s123 → rfk (rR σ 15) ∧ (rng (rF s123 0 16) → pre_X14_wordEnd_t s123 (rR σ 15) 4000 (rF s123 0 16) (rF s1 0 17) ∧ (∀ (v140 : Int), rng v140 → post_X14_wordEnd_t s123 (rR σ 15) 4000 (rF s123 0 16) (rF s1 0 17) v140 → Q v123 (sF s123 0 17 v140))))) ∧ (¬ v107 = 0 → pre_X14_node_t s1 31 0 0 (rF s1 0 17) gg ∧ (∀ (v123 : Int) (s123 : rS), rng v123 → rWF s123 → (rNMp s1 → rNMp s123) → rR s123 7 = rR s1 7 → rR s123 15 = rR s1 15 → rF s123 0 10 = rF s1 0 10 → rF s123 0 14 = rF s1 0 14 → rF s123 0 16 = rF s1 0 16 → rF s123 0 17 = rF s1 0 17 → rF s123 0 19 = rF s1 0 19 → rF s123 0 21 = rF s1 0 21 → rF s123 0 22 = rF s1 0 22 → rF s123 0 23 = rF s1 0 23 → rF s123 0 28 = rF s1 0 28 → rF s123 0 29 = rF s1 0 29 → rF s123 0 30 = rF s1 0 30 → rF s123 0 31 = rF s1 0 31 → rF s123 0 32 = rF s1 0 32 → rF s123 0 33 = rF s1 0 33 → rF s123 0 38 = rF s1 0 38 → rF s123 0 39 = rF s1 0 39 → (∀ i, rA s123 1027 i = rA s1 1027 i) → (∀ i, rA s123 1034 i = rA s1 1034 i) → (∀ i, rA s123 1035 i = rA s1 1035 i) → (∀ i, rA s123 1040 i = rA s1 1040 i) → rF s123 (rR σ 7) 9 = rF s1 (rR σ 7) 9 → rF s123 (rR σ 7) 12 = rF s1 (rR σ 7) 12 → rF s123 (rR σ 7) 32 = rF s1 (rR σ 7) 32 → rF s123 (rR σ 7) 38 = rF s1 (rR σ 7) 38 → (∀ i, rA s123 (1000 * ((rR σ 7) + 1) + 10) i = rA s1 (1000 * ((rR σ 7) + 1) + 10) i) → (∀ i, rA s123 (1000 * ((rR σ 7) + 1) + 11) i = rA s1 (1000 * ((rR σ 7) + 1) + 11) i) → FLk s1 s123 → fz s123 = fz s1 → post_X14_node_t s1 31 0 0 (rF s1 0 17) gg v123 s123 → rfk (rR σ 15) ∧ (rng (rF s123 0 16) → pre_X14_wordEnd_t s123 (rR σ 15) 4000 (rF s123 0 16) (rF s1 0 17) ∧ (∀ (v140 : Int), rng v140 → post_X14_wordEnd_t s123 (rR σ 15) 4000 (rF s123 0 16) (rF s1 0 17) v140 → Q v123 (sF s123 0 17 v140)))))))))))))) ∧ (v69 = 123 → ∃ (g51 : Nat → Int → Int), pre_X14_readFileSub s1 gg U g51 ∧ (∀ (v78 : Int) (s78 : rS), rng v78 → rWF s78 → rR s78 7 = rR s1 7 → rR s78 15 = rR s1 15 → rF s78 0 14 = rF s1 0 14 → rF s78 0 16 = rF s1 0 16 → rF s78 0 19 = rF s1 0 19 → rF s78 0 21 = rF s1 0 21 → rF s78 0 22 = rF s1 0 22 → rF s78 0 23 = rF s1 0 23 → FLk s1 s78 → post_X14_readFileSub s1 gg U g51 v78 s78 → Q v78 s78))))) ∧ (v23 = 34 → pre_X14_fileString_f s1 ∧ (∀ (s32 : rS), rWF s32 → (rNMp s1 → rNMp s32) → (PNp s1 → PNp s32) → rR s32 7 = rR s1 7 → rR s32 15 = rR s1 15 → rF s32 0 14 = rF s1 0 14 → rF s32 0 16 = rF s1 0 16 → rF s32 0 19 = rF s1 0 19 → rF s32 0 28 = rF s1 0 28 → rF s32 0 29 = rF s1 0 29 → rF s32 0 30 = rF s1 0 30 → rF s32 0 31 = rF s1 0 31 → rF s32 0 32 = rF s1 0 32 → rF s32 0 33 = rF s1 0 33 → rF s32 0 38 = rF s1 0 38 → rF s32 0 39 = rF s1 0 39 → (∀ i, rA s32 1027 i = rA s1 1027 i) → (∀ i, rA s32 1034 i = rA s1 1034 i) → (∀ i, rA s32 1035 i = rA s1 1035 i) → (∀ i, rA s32 1040 i = rA s1 1040 i) → rF s32 (rR σ 7) 7 = rF s1 (rR σ 7) 7 → rF s32 (rR σ 7) 9 = rF s1 (rR σ 7) 9 → rF s32 (rR σ 7) 12 = rF s1 (rR σ 7) 12 → rF s32 (rR σ 7) 32 = rF s1 (rR σ 7) 32 → rF s32 (rR σ 7) 38 = rF s1 (rR σ 7) 38 → (∀ i, rA s32 (1000 * ((rR σ 7) + 1) + 10) i = rA s1 (1000 * ((rR σ 7) + 1) + 10) i) → (∀ i, rA s32 (1000 * ((rR σ 7) + 1) + 11) i = rA s1 (1000 * ((rR σ 7) + 1) + 11) i) → FLk s1 s32 → RG s1 s32 (rR σ 7) 0 → post_X14_fileString_f s1 s32 → (rng (rF s32 0 10) → ((¬ (rF s32 0 10) = 0 → Q 0 s32) ∧ ((rF s32 0 10) = 0 → rfk (rR σ 15) ∧ (rng (rF s32 0 22) → (rng (rF s32 0 23) → pre_X14_keepString_t s32 (rR σ 15) 4000 (rF s32 0 22) (rF s32 0 23) (rF s1 0 17) gg ∧ (∀ (v56 : Int) (s56 : rS), rng v56 → rWF s56 → rR s56 7 = rR s32 7 → rR s56 15 = rR s32 15 → rF s56 0 10 = rF s32 0 10 → rF s56 0 14 = rF s32 0 14 → rF s56 0 16 = rF s32 0 16 → rF s56 0 17 = rF s32 0 17 → rF s56 0 19 = rF s32 0 19 → rF s56 0 21 = rF s32 0 21 → rF s56 0 22 = rF s32 0 22 → rF s56 0 23 = rF s32 0 23 → rF s56 0 28 = rF s32 0 28 → rF s56 0 29 = rF s32 0 29 → rF s56 0 30 = rF s32 0 30 → rF s56 0 31 = rF s32 0 31 → rF s56 0 32 = rF s32 0 32 → rF s56 0 33 = rF s32 0 33 → rF s56 0 38 = rF s32 0 38 → rF s56 0 39 = rF s32 0 39 → (∀ i, rA s56 1027 i = rA s32 1027 i) → (∀ i, rA s56 1034 i = rA s32 1034 i) → (∀ i, rA s56 1035 i = rA s32 1035 i) → (∀ i, rA s56 1040 i = rA s32 1040 i) → rF s56 (rR σ 7) 12 = rF s32 (rR σ 7) 12 → rF s56 (rR σ 7) 32 = rF s32 (rR σ 7) 32 → rF s56 (rR σ 7) 38 = rF s32 (rR σ 7) 38 → (∀ i, rA s56 (1000 * ((rR σ 7) + 1) + 10) i = rA s32 (1000 * ((rR σ 7) + 1) + 10) i) → (∀ i, rA s56 (1000 * ((rR σ 7) + 1) + 11) i = rA s32 (1000 * ((rR σ 7) + 1) + 11) i) → FLk s32 s56 → fz s56 = fz s32 → post_X14_keepString_t s32 (rR σ 15) 4000 (rF s32 0 22) (rF s32 0 23) (rF s1 0 17) gg v56 s56 → Q v56 s56)))))))))))) ∧ (¬ (rF s1 0 10) = 0 → Q 0 s1))))
set_option maxRecDepth 20000 in
set_option maxHeartbeats 20000000 in
theorem vX14_readValue (σ : rS) (x1 : Int) (gg : Nat) (U : Int) (g : Nat → Int → Int) (hwf : rWF σ) (hx1 : rng x1) (hp : pre_X14_readValue σ x1 gg U g) : VC_X14_readValue σ x1 gg U g (post_X14_readValue σ x1 gg U g) := by
  unfold pre_X14_readValue at hp
  obtain ⟨hp_1, hp_2, hp_3, hp_4, hp_5, hp_6, hp_7, hp_8⟩ := hp
  unfold rng at hx1
  subst hp_1
  have hF := hp_3
  unfold FPZ at hF
  have zr0 := fz_rng σ
  unfold VC_X14_readValue
  refine ⟨(by (all_goals (repeat' (first | with_reducible intro _ | with_reducible apply And.intro))); all_goals (first | assumption | trivial | (unfold FPZ; omega) | (unfold FQZ; omega) | omega | (have zz_ := fz_z (by assumption); omega) | (split <;> omega) | done)), ?_⟩
  refine ⟨(by (try simp only [pre_X14_skip]); (all_goals (repeat' (first | with_reducible intro _ | with_reducible apply And.intro | with_reducible refine Exists.intro g ?_ | with_reducible refine Im.and ?_ ?_))); all_goals (first | assumption | trivial | ((with_reducible refine Im.i fun hf_ => ?_); first | exact ((fun _ => RG.t0f (by omega) (by omega)) hf_) | exact (hp_7 hf_) | exact ((fun _ => GK.rf) hf_) | exact ok1.i | (exact LI.z (fun h => absurd h (by decide))) | (exact absurd hf_ (by omega)) | omega) | (unfold FPZ; omega) | (unfold FQZ; omega) | omega | (have zz_ := fz_z (by assumption); omega) | (split <;> omega) | done)), ?_⟩
  intro s1 Ws1 e1_0 e1_1 e1_2 e1_3 e1_4 e1_5 e1_6 e1_7 e1_8 e1_9 e1_10 e1_11 e1_12 e1_13 e1_14 e1_15 e1_16 e1_17 e1_18 e1_19 e1_20 e1_21 e1_22 e1_23 e1_24 e1_25 e1_26 e1_27 e1_28 e1_29 R1 q1
  have q1 := dig_X14_skip q1
  obtain ⟨q1_1, q1_2, q1_3⟩ := q1
  (try simp only [FPZ, FQZ] at q1_1 q1_2 q1_3 e1_0 e1_1 e1_2 e1_3 e1_4 e1_5 e1_6 e1_7 e1_8 e1_9 e1_10 e1_11 e1_12 e1_13 e1_14 e1_15 e1_16 e1_17 e1_18 e1_19 e1_20 e1_21 e1_22 e1_23 e1_24 e1_25 e1_26 e1_27 e1_28 e1_29 R1)
  have Ks1 : rR s1 7 = rR σ 7 := by first | assumption | ((try simp only [rR_sF, rR_sA, rR_sT, rR_sL] at e1_0 e1_1 e1_2 e1_3 e1_4 e1_5 e1_6 e1_7 e1_8 e1_9 e1_10 e1_11 e1_12 e1_13 e1_14 e1_15 e1_16 e1_17 e1_18 e1_19 e1_20 e1_21 e1_22 e1_23 e1_24 e1_25 e1_26 e1_27 e1_28 e1_29 R1); omega)
  have Fs1 : rR s1 15 = rR σ 15 := by first | assumption | ((try simp only [rR_sF, rR_sA, rR_sT, rR_sL] at e1_0 e1_1 e1_2 e1_3 e1_4 e1_5 e1_6 e1_7 e1_8 e1_9 e1_10 e1_11 e1_12 e1_13 e1_14 e1_15 e1_16 e1_17 e1_18 e1_19 e1_20 e1_21 e1_22 e1_23 e1_24 e1_25 e1_26 e1_27 e1_28 e1_29 R1); omega)
  have zr1 := fz_rng s1
  have zc1 : fz s1 = 0 → fz σ = 0 := fun hf => by omega
  have A1 : Im (fz s1 = 0) (RG (RT σ) s1 (rR σ 7) 0) := fun hf => RG.trk hp_2 ((fun _ => RG.t0f (by omega) (by omega)) (zc1 hf)) R1 (Or.inr (Or.inl rfl))
  have Ku1 : Im (fz s1 = 0) (GK g g (rF σ (rR σ 7) 7) (rF s1 (rR σ 7) 7) 0) := fun hf => GK.trans ((fun _ => GK.rf) (zc1 hf)) (GK.up (N := rF σ (rR σ 7) 7) (N' := rF s1 (rR σ 7) 7) (c := 0) (by first | assumption | omega | (simp only [rF_sT, rF_sA]; omega))) (Or.inr (Or.inl rfl))
  have Gu2 : Im (fz s1 = 0) (GS s1 (rR σ 7) g) := fun hf => GS.mv hp_2 (hp_7 (zc1 hf)) R1 (by first | assumption | omega | (simp only [rF_sT, rF_sA]; omega)) (by first | (exact Int.le_of_eq (Eq.symm (by assumption))) | omega | (simp only [rF_sT, rF_sA]; omega))
  have rNMp_1 := e1_0 hp_4; clear e1_0
  have PNp_1 := e1_1 hp_5; clear e1_1
  intro hr_; unfold rng at hr_
  refine ⟨fun c8 => ?_, fun c8 => ?_⟩
  · have z8 := fz_z c8
    intro hr_; unfold rng at hr_
    refine ⟨(by (try simp only [pre_X14_fc, Ks1, Fs1]); (all_goals (repeat' (first | with_reducible intro _ | with_reducible apply And.intro | with_reducible refine Exists.intro g ?_ | with_reducible refine Im.and ?_ ?_))); all_goals (first | assumption | trivial | ((with_reducible refine Im.i fun hf_ => ?_); first | exact (A1 hf_) | exact (Gu2 hf_) | exact (Ku1 hf_) | exact ok1.i | (exact LI.z (fun h => absurd h (by decide))) | (exact absurd hf_ (by omega)) | omega) | (unfold FPZ; (try simp only [Ks1, Fs1]); omega) | (unfold FQZ; (try simp only [Ks1, Fs1]); omega) | omega | (have zz_ := fz_z (by assumption); omega) | (split <;> omega) | done)), ?_⟩
    intro v23 hv23 q23
    unfold rng at hv23
    unfold post_X14_fc at q23
    obtain ⟨q23_1, q23_2⟩ := q23
    (try simp only [Ks1, Fs1, FPZ, FQZ] at q23_1 q23_2)
    refine ⟨fun c28 => ?_, fun c28 => ?_⟩
    · refine ⟨(by (try simp only [pre_X14_fc, Ks1, Fs1]); (all_goals (repeat' (first | with_reducible intro _ | with_reducible apply And.intro | with_reducible refine Exists.intro g ?_ | with_reducible refine Im.and ?_ ?_))); all_goals (first | assumption | trivial | ((with_reducible refine Im.i fun hf_ => ?_); first | exact (A1 hf_) | exact (Gu2 hf_) | exact (Ku1 hf_) | exact ok1.i | (exact LI.z (fun h => absurd h (by decide))) | (exact absurd hf_ (by omega)) | omega) | (unfold FPZ; (try simp only [Ks1, Fs1]); omega) | (unfold FQZ; (try simp only [Ks1, Fs1]); omega) | omega | (have zz_ := fz_z (by assumption); omega) | (split <;> omega) | done)), ?_⟩
      intro v69 hv69 q69
      unfold rng at hv69
      unfold post_X14_fc at q69
      obtain ⟨q69_1, q69_2⟩ := q69
      (try simp only [Ks1, Fs1, FPZ, FQZ] at q69_1 q69_2)
      refine ⟨fun c74 => ?_, fun c74 => ?_⟩
      · refine ⟨(by (try simp only [pre_X14_isFileWord_f, Ks1, Fs1]); (all_goals (repeat' (first | with_reducible intro _ | with_reducible apply And.intro | with_reducible refine Exists.intro g ?_ | with_reducible refine Im.and ?_ ?_))); all_goals (first | assumption | trivial | ((with_reducible refine Im.i fun hf_ => ?_); first | exact (A1 hf_) | exact (Gu2 hf_) | exact (Ku1 hf_) | exact ok1.i | (exact LI.z (fun h => absurd h (by decide))) | (exact absurd hf_ (by omega)) | omega) | (unfold FPZ; (try simp only [Ks1, Fs1]); omega) | (unfold FQZ; (try simp only [Ks1, Fs1]); omega) | omega | (have zz_ := fz_z (by assumption); omega) | (split <;> omega) | done)), ?_⟩
        intro v86 hv86 q86
        unfold rng at hv86
        unfold post_X14_isFileWord_f at q86
        obtain ⟨q86_1, q86_2, q86_3⟩ := q86
        (try simp only [Ks1, Fs1, FPZ, FQZ] at q86_1 q86_2 q86_3)
        refine ⟨fun c89 => ?_, fun c89 => ?_⟩
        · refine ⟨(by (try simp only [pre_X14_isFileWord_f, Ks1, Fs1]); (all_goals (repeat' (first | with_reducible intro _ | with_reducible apply And.intro | with_reducible refine Exists.intro g ?_ | with_reducible refine Im.and ?_ ?_))); all_goals (first | assumption | trivial | ((with_reducible refine Im.i fun hf_ => ?_); first | exact (A1 hf_) | exact (Gu2 hf_) | exact (Ku1 hf_) | exact ok1.i | (exact LI.z (fun h => absurd h (by decide))) | (exact absurd hf_ (by omega)) | omega) | (unfold FPZ; (try simp only [Ks1, Fs1]); omega) | (unfold FQZ; (try simp only [Ks1, Fs1]); omega) | omega | (have zz_ := fz_z (by assumption); omega) | (split <;> omega) | done)), ?_⟩
          intro v107 hv107 q107
          unfold rng at hv107
          unfold post_X14_isFileWord_f at q107
          obtain ⟨q107_1, q107_2, q107_3⟩ := q107
          (try simp only [Ks1, Fs1, FPZ, FQZ] at q107_1 q107_2 q107_3)
          refine ⟨fun c110 => ?_, fun c110 => ?_⟩
          · refine ⟨(by (try simp only [pre_X14_node_t, Ks1, Fs1]); (all_goals (repeat' (first | with_reducible intro _ | with_reducible apply And.intro | with_reducible refine Exists.intro g ?_ | with_reducible refine Im.and ?_ ?_))); all_goals (first | assumption | trivial | ((with_reducible refine Im.i fun hf_ => ?_); first | exact (A1 hf_) | exact (Gu2 hf_) | exact (Ku1 hf_) | exact ok1.i | (exact LI.z (fun h => absurd h (by decide))) | (exact absurd hf_ (by omega)) | omega) | (unfold FPZ; (try simp only [Ks1, Fs1]); omega) | (unfold FQZ; (try simp only [Ks1, Fs1]); omega) | omega | (have zz_ := fz_z (by assumption); omega) | (split <;> omega) | done)), ?_⟩
            intro v123 s123 hv123 Ws123 e123_0 e123_1 e123_2 e123_3 e123_4 e123_5 e123_6 e123_7 e123_8 e123_9 e123_10 e123_11 e123_12 e123_13 e123_14 e123_15 e123_16 e123_17 e123_18 e123_19 e123_20 e123_21 e123_22 e123_23 e123_24 e123_25 e123_26 e123_27 e123_28 e123_29 e123_30 q123
            unfold rng at hv123
            unfold post_X14_node_t at q123
            obtain ⟨q123_1, q123_2, q123_3, q123_4, q123_5, q123_6, q123_7, q123_8, q123_9, q123_10⟩ := q123
            (try simp only [Ks1, Fs1, FPZ, FQZ] at q123_1 q123_2 q123_3 q123_4 q123_5 q123_6 q123_7 q123_8 q123_9 q123_10 e123_0 e123_1 e123_2 e123_3 e123_4 e123_5 e123_6 e123_7 e123_8 e123_9 e123_10 e123_11 e123_12 e123_13 e123_14 e123_15 e123_16 e123_17 e123_18 e123_19 e123_20 e123_21 e123_22 e123_23 e123_24 e123_25 e123_26 e123_27 e123_28 e123_29 e123_30)
            have Ks123 : rR s123 7 = rR σ 7 := by first | assumption | ((try simp only [rR_sF, rR_sA, rR_sT, rR_sL] at e123_0 e123_1 e123_2 e123_3 e123_4 e123_5 e123_6 e123_7 e123_8 e123_9 e123_10 e123_11 e123_12 e123_13 e123_14 e123_15 e123_16 e123_17 e123_18 e123_19 e123_20 e123_21 e123_22 e123_23 e123_24 e123_25 e123_26 e123_27 e123_28 e123_29 e123_30); omega)
            have Fs123 : rR s123 15 = rR σ 15 := by first | assumption | ((try simp only [rR_sF, rR_sA, rR_sT, rR_sL] at e123_0 e123_1 e123_2 e123_3 e123_4 e123_5 e123_6 e123_7 e123_8 e123_9 e123_10 e123_11 e123_12 e123_13 e123_14 e123_15 e123_16 e123_17 e123_18 e123_19 e123_20 e123_21 e123_22 e123_23 e123_24 e123_25 e123_26 e123_27 e123_28 e123_29 e123_30); omega)
            have zr123 := fz_rng s123
            have zc123 : fz s123 = 0 → fz s1 = 0 := fun hf => by omega
            have A123 : Im (fz s123 = 0) (RG (RT σ) s123 (rR σ 7) 0) := fun hf => RG.trk hp_2 (A1 (zc123 hf)) q123_3 (Or.inr (Or.inl rfl))
            obtain ⟨g123, X123⟩ := EN_32 (P := fz s123 = 0) 0 0 hp_2 (fun hf => Gu2 (zc123 hf)) (fun hf => q123_3) q123_1 q123_2 q123_4 q123_5 q123_6 q123_9 (fun hf => by (try simp only [rF_sT, rF_sA]); (repeat' (with_reducible apply And.intro)) <;> first | trivial | omega)
            have Ku3 : Im (fz s123 = 0) (GK g g123 (rF σ (rR σ 7) 7) (rF s123 (rR σ 7) 7) 0) := fun hf => GK.gs (Ku1 (zc123 hf)) (X123 hf).2.1
            have Gu4 : Im (fz s123 = 0) _ := fun hf => (X123 hf).1
            have O123 : Im (fz s123 = 0) _ := fun hf => (X123 hf).2.2.1
            have rNMp_123 := e123_0 rNMp_1; clear e123_0
            obtain ⟨gu5, Xu6⟩ := EC_32 (P := fz s123 = 0) 0 Gu4 O123 (fun hf => by omega)
            have O123u7 : Im (fz s123 = 0) _ := fun hf => (Xu6 hf).2.1
            have Ku8 : Im (fz s123 = 0) (GK g gu5 (rF σ (rR σ 7) 7) (rF s123 (rR σ 7) 7) 0) := fun hf => GK.kc (Ku3 hf) (Xu6 hf).2.2 (by omega)
            have Gu9 : Im (fz s123 = 0) _ := fun hf => (Xu6 hf).1
            have Vu10 : Im (fz s123 = 0) _ := fun hf => NR_re19 (O123u7 hf) (Xu6 hf).2.2 (O123 hf) (by rw [so_19]; omega)
            refine ⟨(by (try simp only [Ks123, Fs123]); (all_goals (repeat' (first | with_reducible intro _ | with_reducible apply And.intro | with_reducible refine Exists.intro gu5 ?_ | with_reducible refine Im.and ?_ ?_))); all_goals (first | assumption | trivial | ((with_reducible refine Im.i fun hf_ => ?_); first | exact (A123 hf_) | exact (Gu9 hf_) | exact (Ku8 hf_) | exact (Vu10 hf_).cst | exact ok1.i | (exact LI.z (fun h => absurd h (by decide))) | (exact absurd hf_ (by omega)) | omega) | (unfold FPZ; (try simp only [Ks123, Fs123]); omega) | (unfold FQZ; (try simp only [Ks123, Fs123]); omega) | omega | (have zz_ := fz_z (by assumption); omega) | (split <;> omega) | done)), ?_⟩
            intro hr_; unfold rng at hr_
            refine ⟨(by (try simp only [pre_X14_wordEnd_t, Ks123, Fs123]); (all_goals (repeat' (first | with_reducible intro _ | with_reducible apply And.intro | with_reducible refine Exists.intro gu5 ?_ | with_reducible refine Im.and ?_ ?_))); all_goals (first | assumption | trivial | ((with_reducible refine Im.i fun hf_ => ?_); first | exact (A123 hf_) | exact (Gu9 hf_) | exact (Ku8 hf_) | exact (Vu10 hf_).cst | exact ok1.i | (exact LI.z (fun h => absurd h (by decide))) | (exact absurd hf_ (by omega)) | omega) | (unfold FPZ; (try simp only [Ks123, Fs123]); omega) | (unfold FQZ; (try simp only [Ks123, Fs123]); omega) | omega | (have zz_ := fz_z (by assumption); omega) | (split <;> omega) | done)), ?_⟩
            intro v140 hv140 q140
            unfold rng at hv140
            unfold post_X14_wordEnd_t at q140
            obtain ⟨q140_1, q140_2, q140_3, q140_4⟩ := q140
            (try simp only [Ks123, Fs123, FPZ, FQZ] at q140_1 q140_2 q140_3 q140_4)
            have w140 : rF s1 0 17 < v140 := by first | (have a_ := q86_3 ⟨by omega, by decide⟩; (try simp only [Fs1] at a_); exact q140_4 ⟨by omega, by rw [(by assumption : FLk s1 s123) _ _ hp_6.1]; exact a_.2⟩) | (have a_ := q96_3 ⟨by omega, by decide⟩; (try simp only [Fs1] at a_); exact q140_4 ⟨by omega, by rw [(by assumption : FLk s1 s123) _ _ hp_6.1]; exact a_.2⟩) | (have a_ := q107_3 ⟨by omega, by decide⟩; (try simp only [Fs1] at a_); exact q140_4 ⟨by omega, by rw [(by assumption : FLk s1 s123) _ _ hp_6.1]; exact a_.2⟩)
            exact (by (try simp only [post_X14_readValue, reduceIte, and_true, true_and, and_false, false_and, and_self, Nat.reduceEqDiff, fz_sF17, rF_sF, rA_sF, rR_sF, tr_sF, rNMp_sF, PNp_sF, GS_F17, OP_F17, NR_F17, LI_F17, RG_l17, RG_r17, TPRp_sF17, WNp_sF17, VMp_sF17, KYp_sF17, PPp_sF17, WFp_sF17, CCp_sF17, rk_n0 hp_2, Ks123, Fs123]); (all_goals (repeat' (first | with_reducible intro _ | with_reducible apply And.intro | with_reducible refine Exists.intro gu5 ?_ | with_reducible refine Im.and ?_ ?_))); all_goals (first | assumption | trivial | ((with_reducible refine Im.i fun hf_ => ?_); first | exact (A123 hf_) | exact (Gu9 hf_) | exact (Ku8 hf_) | exact (Vu10 hf_).cst | exact ok1.i | (exact LI.z (fun h => absurd h (by decide))) | (exact absurd hf_ (by omega)) | omega) | (unfold FPZ; (try simp only [reduceIte, and_true, true_and, and_false, false_and, and_self, Nat.reduceEqDiff, fz_sF17, rF_sF, rA_sF, rR_sF, tr_sF, rNMp_sF, PNp_sF, GS_F17, OP_F17, NR_F17, LI_F17, RG_l17, RG_r17, TPRp_sF17, WNp_sF17, VMp_sF17, KYp_sF17, PPp_sF17, WFp_sF17, CCp_sF17, rk_n0 hp_2, Ks123, Fs123]); omega) | (unfold FQZ; (try simp only [reduceIte, and_true, true_and, and_false, false_and, and_self, Nat.reduceEqDiff, fz_sF17, rF_sF, rA_sF, rR_sF, tr_sF, rNMp_sF, PNp_sF, GS_F17, OP_F17, NR_F17, LI_F17, RG_l17, RG_r17, TPRp_sF17, WNp_sF17, VMp_sF17, KYp_sF17, PPp_sF17, WFp_sF17, CCp_sF17, rk_n0 hp_2, Ks123, Fs123]); omega) | omega | (have zz_ := fz_z (by assumption); omega) | (split <;> omega) | done))
          · refine ⟨(by (try simp only [pre_X14_node_t, Ks1, Fs1]); (all_goals (repeat' (first | with_reducible intro _ | with_reducible apply And.intro | with_reducible refine Exists.intro g ?_ | with_reducible refine Im.and ?_ ?_))); all_goals (first | assumption | trivial | ((with_reducible refine Im.i fun hf_ => ?_); first | exact (A1 hf_) | exact (Gu2 hf_) | exact (Ku1 hf_) | exact ok1.i | (exact LI.z (fun h => absurd h (by decide))) | (exact absurd hf_ (by omega)) | omega) | (unfold FPZ; (try simp only [Ks1, Fs1]); omega) | (unfold FQZ; (try simp only [Ks1, Fs1]); omega) | omega | (have zz_ := fz_z (by assumption); omega) | (split <;> omega) | done)), ?_⟩
            intro v123 s123 hv123 Ws123 e123_0 e123_1 e123_2 e123_3 e123_4 e123_5 e123_6 e123_7 e123_8 e123_9 e123_10 e123_11 e123_12 e123_13 e123_14 e123_15 e123_16 e123_17 e123_18 e123_19 e123_20 e123_21 e123_22 e123_23 e123_24 e123_25 e123_26 e123_27 e123_28 e123_29 e123_30 q123
            unfold rng at hv123
            unfold post_X14_node_t at q123
            obtain ⟨q123_1, q123_2, q123_3, q123_4, q123_5, q123_6, q123_7, q123_8, q123_9, q123_10⟩ := q123
            (try simp only [Ks1, Fs1, FPZ, FQZ] at q123_1 q123_2 q123_3 q123_4 q123_5 q123_6 q123_7 q123_8 q123_9 q123_10 e123_0 e123_1 e123_2 e123_3 e123_4 e123_5 e123_6 e123_7 e123_8 e123_9 e123_10 e123_11 e123_12 e123_13 e123_14 e123_15 e123_16 e123_17 e123_18 e123_19 e123_20 e123_21 e123_22 e123_23 e123_24 e123_25 e123_26 e123_27 e123_28 e123_29 e123_30)
            have Ks123 : rR s123 7 = rR σ 7 := by first | assumption | ((try simp only [rR_sF, rR_sA, rR_sT, rR_sL] at e123_0 e123_1 e123_2 e123_3 e123_4 e123_5 e123_6 e123_7 e123_8 e123_9 e123_10 e123_11 e123_12 e123_13 e123_14 e123_15 e123_16 e123_17 e123_18 e123_19 e123_20 e123_21 e123_22 e123_23 e123_24 e123_25 e123_26 e123_27 e123_28 e123_29 e123_30); omega)
            have Fs123 : rR s123 15 = rR σ 15 := by first | assumption | ((try simp only [rR_sF, rR_sA, rR_sT, rR_sL] at e123_0 e123_1 e123_2 e123_3 e123_4 e123_5 e123_6 e123_7 e123_8 e123_9 e123_10 e123_11 e123_12 e123_13 e123_14 e123_15 e123_16 e123_17 e123_18 e123_19 e123_20 e123_21 e123_22 e123_23 e123_24 e123_25 e123_26 e123_27 e123_28 e123_29 e123_30); omega)
            have zr123 := fz_rng s123
            have zc123 : fz s123 = 0 → fz s1 = 0 := fun hf => by omega
            have A123 : Im (fz s123 = 0) (RG (RT σ) s123 (rR σ 7) 0) := fun hf => RG.trk hp_2 (A1 (zc123 hf)) q123_3 (Or.inr (Or.inl rfl))
            obtain ⟨g123, X123⟩ := EN_31 (P := fz s123 = 0) 0 0 hp_2 (fun hf => Gu2 (zc123 hf)) (fun hf => q123_3) q123_1 q123_2 q123_4 q123_5 q123_6 q123_9 (fun hf => by (try simp only [rF_sT, rF_sA]); (repeat' (with_reducible apply And.intro)) <;> first | trivial | omega)
            have Ku11 : Im (fz s123 = 0) (GK g g123 (rF σ (rR σ 7) 7) (rF s123 (rR σ 7) 7) 0) := fun hf => GK.gs (Ku1 (zc123 hf)) (X123 hf).2.1
            have Gu12 : Im (fz s123 = 0) _ := fun hf => (X123 hf).1
            have O123 : Im (fz s123 = 0) _ := fun hf => (X123 hf).2.2.1
            have rNMp_123 := e123_0 rNMp_1; clear e123_0
            obtain ⟨gu13, Xu14⟩ := EC_31 (P := fz s123 = 0) 0 Gu12 O123 (fun hf => by omega)
            have O123u15 : Im (fz s123 = 0) _ := fun hf => (Xu14 hf).2.1
            have Ku16 : Im (fz s123 = 0) (GK g gu13 (rF σ (rR σ 7) 7) (rF s123 (rR σ 7) 7) 0) := fun hf => GK.kc (Ku11 hf) (Xu14 hf).2.2 (by omega)
            have Gu17 : Im (fz s123 = 0) _ := fun hf => (Xu14 hf).1
            have Vu18 : Im (fz s123 = 0) _ := fun hf => NR_re19 (O123u15 hf) (Xu14 hf).2.2 (O123 hf) (by rw [so_19]; omega)
            refine ⟨(by (try simp only [Ks123, Fs123]); (all_goals (repeat' (first | with_reducible intro _ | with_reducible apply And.intro | with_reducible refine Exists.intro gu13 ?_ | with_reducible refine Im.and ?_ ?_))); all_goals (first | assumption | trivial | ((with_reducible refine Im.i fun hf_ => ?_); first | exact (A123 hf_) | exact (Gu17 hf_) | exact (Ku16 hf_) | exact (Vu18 hf_).cst | exact ok1.i | (exact LI.z (fun h => absurd h (by decide))) | (exact absurd hf_ (by omega)) | omega) | (unfold FPZ; (try simp only [Ks123, Fs123]); omega) | (unfold FQZ; (try simp only [Ks123, Fs123]); omega) | omega | (have zz_ := fz_z (by assumption); omega) | (split <;> omega) | done)), ?_⟩
            intro hr_; unfold rng at hr_
            refine ⟨(by (try simp only [pre_X14_wordEnd_t, Ks123, Fs123]); (all_goals (repeat' (first | with_reducible intro _ | with_reducible apply And.intro | with_reducible refine Exists.intro gu13 ?_ | with_reducible refine Im.and ?_ ?_))); all_goals (first | assumption | trivial | ((with_reducible refine Im.i fun hf_ => ?_); first | exact (A123 hf_) | exact (Gu17 hf_) | exact (Ku16 hf_) | exact (Vu18 hf_).cst | exact ok1.i | (exact LI.z (fun h => absurd h (by decide))) | (exact absurd hf_ (by omega)) | omega) | (unfold FPZ; (try simp only [Ks123, Fs123]); omega) | (unfold FQZ; (try simp only [Ks123, Fs123]); omega) | omega | (have zz_ := fz_z (by assumption); omega) | (split <;> omega) | done)), ?_⟩
            intro v140 hv140 q140
            unfold rng at hv140
            unfold post_X14_wordEnd_t at q140
            obtain ⟨q140_1, q140_2, q140_3, q140_4⟩ := q140
            (try simp only [Ks123, Fs123, FPZ, FQZ] at q140_1 q140_2 q140_3 q140_4)
            have w140 : rF s1 0 17 < v140 := by first | (have a_ := q86_3 ⟨by omega, by decide⟩; (try simp only [Fs1] at a_); exact q140_4 ⟨by omega, by rw [(by assumption : FLk s1 s123) _ _ hp_6.1]; exact a_.2⟩) | (have a_ := q96_3 ⟨by omega, by decide⟩; (try simp only [Fs1] at a_); exact q140_4 ⟨by omega, by rw [(by assumption : FLk s1 s123) _ _ hp_6.1]; exact a_.2⟩) | (have a_ := q107_3 ⟨by omega, by decide⟩; (try simp only [Fs1] at a_); exact q140_4 ⟨by omega, by rw [(by assumption : FLk s1 s123) _ _ hp_6.1]; exact a_.2⟩)
            exact (by (try simp only [post_X14_readValue, reduceIte, and_true, true_and, and_false, false_and, and_self, Nat.reduceEqDiff, fz_sF17, rF_sF, rA_sF, rR_sF, tr_sF, rNMp_sF, PNp_sF, GS_F17, OP_F17, NR_F17, LI_F17, RG_l17, RG_r17, TPRp_sF17, WNp_sF17, VMp_sF17, KYp_sF17, PPp_sF17, WFp_sF17, CCp_sF17, rk_n0 hp_2, Ks123, Fs123]); (all_goals (repeat' (first | with_reducible intro _ | with_reducible apply And.intro | with_reducible refine Exists.intro gu13 ?_ | with_reducible refine Im.and ?_ ?_))); all_goals (first | assumption | trivial | ((with_reducible refine Im.i fun hf_ => ?_); first | exact (A123 hf_) | exact (Gu17 hf_) | exact (Ku16 hf_) | exact (Vu18 hf_).cst | exact ok1.i | (exact LI.z (fun h => absurd h (by decide))) | (exact absurd hf_ (by omega)) | omega) | (unfold FPZ; (try simp only [reduceIte, and_true, true_and, and_false, false_and, and_self, Nat.reduceEqDiff, fz_sF17, rF_sF, rA_sF, rR_sF, tr_sF, rNMp_sF, PNp_sF, GS_F17, OP_F17, NR_F17, LI_F17, RG_l17, RG_r17, TPRp_sF17, WNp_sF17, VMp_sF17, KYp_sF17, PPp_sF17, WFp_sF17, CCp_sF17, rk_n0 hp_2, Ks123, Fs123]); omega) | (unfold FQZ; (try simp only [reduceIte, and_true, true_and, and_false, false_and, and_self, Nat.reduceEqDiff, fz_sF17, rF_sF, rA_sF, rR_sF, tr_sF, rNMp_sF, PNp_sF, GS_F17, OP_F17, NR_F17, LI_F17, RG_l17, RG_r17, TPRp_sF17, WNp_sF17, VMp_sF17, KYp_sF17, PPp_sF17, WFp_sF17, CCp_sF17, rk_n0 hp_2, Ks123, Fs123]); omega) | omega | (have zz_ := fz_z (by assumption); omega) | (split <;> omega) | done))
        · refine ⟨(by (try simp only [pre_X14_isFileWord_f, Ks1, Fs1]); (all_goals (repeat' (first | with_reducible intro _ | with_reducible apply And.intro | with_reducible refine Exists.intro g ?_ | with_reducible refine Im.and ?_ ?_))); all_goals (first | assumption | trivial | ((with_reducible refine Im.i fun hf_ => ?_); first | exact (A1 hf_) | exact (Gu2 hf_) | exact (Ku1 hf_) | exact ok1.i | (exact LI.z (fun h => absurd h (by decide))) | (exact absurd hf_ (by omega)) | omega) | (unfold FPZ; (try simp only [Ks1, Fs1]); omega) | (unfold FQZ; (try simp only [Ks1, Fs1]); omega) | omega | (have zz_ := fz_z (by assumption); omega) | (split <;> omega) | done)), ?_⟩
          intro v96 hv96 q96
          unfold rng at hv96
          unfold post_X14_isFileWord_f at q96
          obtain ⟨q96_1, q96_2, q96_3⟩ := q96
          (try simp only [Ks1, Fs1, FPZ, FQZ] at q96_1 q96_2 q96_3)
          refine ⟨fun c99 => ?_, fun c99 => ?_⟩
          · refine ⟨fun c149 => ?_, fun c149 => ?_⟩
            · refine ⟨fun c183 => ?_, fun c183 => ?_⟩
              · refine ⟨(by (try simp only [pre_X14_bad, Ks1, Fs1]); (all_goals (repeat' (first | with_reducible intro _ | with_reducible apply And.intro | with_reducible refine Exists.intro g ?_ | with_reducible refine Im.and ?_ ?_))); all_goals (first | assumption | trivial | ((with_reducible refine Im.i fun hf_ => ?_); first | exact (A1 hf_) | exact (Gu2 hf_) | exact (Ku1 hf_) | exact ok1.i | (exact LI.z (fun h => absurd h (by decide))) | (exact absurd hf_ (by omega)) | omega) | (unfold FPZ; (try simp only [Ks1, Fs1]); omega) | (unfold FQZ; (try simp only [Ks1, Fs1]); omega) | omega | (have zz_ := fz_z (by assumption); omega) | (split <;> omega) | done)), ?_⟩
                intro s232 Ws232 e232_0 e232_1 e232_2 e232_3 e232_4 e232_5 e232_6 e232_7 e232_8 e232_9 e232_10 e232_11 e232_12 e232_13 e232_14 e232_15 e232_16 e232_17 e232_18 e232_19 e232_20 e232_21 e232_22 e232_23 e232_24 e232_25 e232_26 e232_27 e232_28 e232_29 e232_30 R232 q232
                have q232 := dig_bad q232 (by (try simp only [Ks1, Fs1]); omega)
                obtain ⟨q232_1, q232_2⟩ := q232
                (try simp only [Ks1, Fs1, FPZ, FQZ] at q232_1 q232_2 e232_0 e232_1 e232_2 e232_3 e232_4 e232_5 e232_6 e232_7 e232_8 e232_9 e232_10 e232_11 e232_12 e232_13 e232_14 e232_15 e232_16 e232_17 e232_18 e232_19 e232_20 e232_21 e232_22 e232_23 e232_24 e232_25 e232_26 e232_27 e232_28 e232_29 e232_30 R232)
                have Ks232 : rR s232 7 = rR σ 7 := by first | assumption | ((try simp only [rR_sF, rR_sA, rR_sT, rR_sL] at e232_0 e232_1 e232_2 e232_3 e232_4 e232_5 e232_6 e232_7 e232_8 e232_9 e232_10 e232_11 e232_12 e232_13 e232_14 e232_15 e232_16 e232_17 e232_18 e232_19 e232_20 e232_21 e232_22 e232_23 e232_24 e232_25 e232_26 e232_27 e232_28 e232_29 e232_30 R232); omega)
                have Fs232 : rR s232 15 = rR σ 15 := by first | assumption | ((try simp only [rR_sF, rR_sA, rR_sT, rR_sL] at e232_0 e232_1 e232_2 e232_3 e232_4 e232_5 e232_6 e232_7 e232_8 e232_9 e232_10 e232_11 e232_12 e232_13 e232_14 e232_15 e232_16 e232_17 e232_18 e232_19 e232_20 e232_21 e232_22 e232_23 e232_24 e232_25 e232_26 e232_27 e232_28 e232_29 e232_30 R232); omega)
                have zr232 := fz_rng s232
                have zc232 : fz s232 = 0 → fz s1 = 0 := fun hf => by omega
                have A232 : Im (fz s232 = 0) (RG (RT σ) s232 (rR σ 7) 0) := fun hf => RG.trk hp_2 (A1 (zc232 hf)) R232 (Or.inr (Or.inl rfl))
                have Ku19 : Im (fz s232 = 0) (GK g g (rF σ (rR σ 7) 7) (rF s232 (rR σ 7) 7) 0) := fun hf => GK.trans (Ku1 (zc232 hf)) (GK.up (N := rF s1 (rR σ 7) 7) (N' := rF s232 (rR σ 7) 7) (c := 0) (by first | assumption | omega | (simp only [rF_sT, rF_sA]; omega))) (Or.inr (Or.inl rfl))
                have Gu20 : Im (fz s232 = 0) (GS s232 (rR σ 7) g) := fun hf => GS.mv hp_2 (Gu2 (zc232 hf)) R232 (by first | assumption | omega | (simp only [rF_sT, rF_sA]; omega)) (by first | (exact Int.le_of_eq (Eq.symm (by assumption))) | omega | (simp only [rF_sT, rF_sA]; omega))
                have rNMp_232 := e232_0 rNMp_1; clear e232_0
                have PNp_232 := e232_1 PNp_1; clear e232_1
                exact (by (try simp only [post_X14_readValue, Ks232, Fs232]); (all_goals (repeat' (first | with_reducible intro _ | with_reducible apply And.intro | with_reducible refine Exists.intro g ?_ | with_reducible refine Im.and ?_ ?_))); all_goals (first | assumption | trivial | ((with_reducible refine Im.i fun hf_ => ?_); first | exact (A232 hf_) | exact (Gu20 hf_) | exact (Ku19 hf_) | exact ok1.i | (exact LI.z (fun h => absurd h (by decide))) | (exact absurd hf_ (by omega)) | omega) | (unfold FPZ; (try simp only [Ks232, Fs232]); omega) | (unfold FQZ; (try simp only [Ks232, Fs232]); omega) | omega | (have zz_ := fz_z (by assumption); omega) | (split <;> omega) | done))
              · refine ⟨(by (try simp only [pre_X14_fc, Ks1, Fs1]); (all_goals (repeat' (first | with_reducible intro _ | with_reducible apply And.intro | with_reducible refine Exists.intro g ?_ | with_reducible refine Im.and ?_ ?_))); all_goals (first | assumption | trivial | ((with_reducible refine Im.i fun hf_ => ?_); first | exact (A1 hf_) | exact (Gu2 hf_) | exact (Ku1 hf_) | exact ok1.i | (exact LI.z (fun h => absurd h (by decide))) | (exact absurd hf_ (by omega)) | omega) | (unfold FPZ; (try simp only [Ks1, Fs1]); omega) | (unfold FQZ; (try simp only [Ks1, Fs1]); omega) | omega | (have zz_ := fz_z (by assumption); omega) | (split <;> omega) | done)), ?_⟩
                intro v191 hv191 q191
                unfold rng at hv191
                unfold post_X14_fc at q191
                obtain ⟨q191_1, q191_2⟩ := q191
                (try simp only [Ks1, Fs1, FPZ, FQZ] at q191_1 q191_2)
                refine ⟨fun c196 => ?_, fun c196 => ?_⟩
                · refine ⟨(by (try simp only [pre_X14_bad, Ks1, Fs1]); (all_goals (repeat' (first | with_reducible intro _ | with_reducible apply And.intro | with_reducible refine Exists.intro g ?_ | with_reducible refine Im.and ?_ ?_))); all_goals (first | assumption | trivial | ((with_reducible refine Im.i fun hf_ => ?_); first | exact (A1 hf_) | exact (Gu2 hf_) | exact (Ku1 hf_) | exact ok1.i | (exact LI.z (fun h => absurd h (by decide))) | (exact absurd hf_ (by omega)) | omega) | (unfold FPZ; (try simp only [Ks1, Fs1]); omega) | (unfold FQZ; (try simp only [Ks1, Fs1]); omega) | omega | (have zz_ := fz_z (by assumption); omega) | (split <;> omega) | done)), ?_⟩
                  intro s232 Ws232 e232_0 e232_1 e232_2 e232_3 e232_4 e232_5 e232_6 e232_7 e232_8 e232_9 e232_10 e232_11 e232_12 e232_13 e232_14 e232_15 e232_16 e232_17 e232_18 e232_19 e232_20 e232_21 e232_22 e232_23 e232_24 e232_25 e232_26 e232_27 e232_28 e232_29 e232_30 R232 q232
                  have q232 := dig_bad q232 (by (try simp only [Ks1, Fs1]); omega)
                  obtain ⟨q232_1, q232_2⟩ := q232
                  (try simp only [Ks1, Fs1, FPZ, FQZ] at q232_1 q232_2 e232_0 e232_1 e232_2 e232_3 e232_4 e232_5 e232_6 e232_7 e232_8 e232_9 e232_10 e232_11 e232_12 e232_13 e232_14 e232_15 e232_16 e232_17 e232_18 e232_19 e232_20 e232_21 e232_22 e232_23 e232_24 e232_25 e232_26 e232_27 e232_28 e232_29 e232_30 R232)
                  have Ks232 : rR s232 7 = rR σ 7 := by first | assumption | ((try simp only [rR_sF, rR_sA, rR_sT, rR_sL] at e232_0 e232_1 e232_2 e232_3 e232_4 e232_5 e232_6 e232_7 e232_8 e232_9 e232_10 e232_11 e232_12 e232_13 e232_14 e232_15 e232_16 e232_17 e232_18 e232_19 e232_20 e232_21 e232_22 e232_23 e232_24 e232_25 e232_26 e232_27 e232_28 e232_29 e232_30 R232); omega)
                  have Fs232 : rR s232 15 = rR σ 15 := by first | assumption | ((try simp only [rR_sF, rR_sA, rR_sT, rR_sL] at e232_0 e232_1 e232_2 e232_3 e232_4 e232_5 e232_6 e232_7 e232_8 e232_9 e232_10 e232_11 e232_12 e232_13 e232_14 e232_15 e232_16 e232_17 e232_18 e232_19 e232_20 e232_21 e232_22 e232_23 e232_24 e232_25 e232_26 e232_27 e232_28 e232_29 e232_30 R232); omega)
                  have zr232 := fz_rng s232
                  have zc232 : fz s232 = 0 → fz s1 = 0 := fun hf => by omega
                  have A232 : Im (fz s232 = 0) (RG (RT σ) s232 (rR σ 7) 0) := fun hf => RG.trk hp_2 (A1 (zc232 hf)) R232 (Or.inr (Or.inl rfl))
                  have Ku21 : Im (fz s232 = 0) (GK g g (rF σ (rR σ 7) 7) (rF s232 (rR σ 7) 7) 0) := fun hf => GK.trans (Ku1 (zc232 hf)) (GK.up (N := rF s1 (rR σ 7) 7) (N' := rF s232 (rR σ 7) 7) (c := 0) (by first | assumption | omega | (simp only [rF_sT, rF_sA]; omega))) (Or.inr (Or.inl rfl))
                  have Gu22 : Im (fz s232 = 0) (GS s232 (rR σ 7) g) := fun hf => GS.mv hp_2 (Gu2 (zc232 hf)) R232 (by first | assumption | omega | (simp only [rF_sT, rF_sA]; omega)) (by first | (exact Int.le_of_eq (Eq.symm (by assumption))) | omega | (simp only [rF_sT, rF_sA]; omega))
                  have rNMp_232 := e232_0 rNMp_1; clear e232_0
                  have PNp_232 := e232_1 PNp_1; clear e232_1
                  exact (by (try simp only [post_X14_readValue, Ks232, Fs232]); (all_goals (repeat' (first | with_reducible intro _ | with_reducible apply And.intro | with_reducible refine Exists.intro g ?_ | with_reducible refine Im.and ?_ ?_))); all_goals (first | assumption | trivial | ((with_reducible refine Im.i fun hf_ => ?_); first | exact (A232 hf_) | exact (Gu22 hf_) | exact (Ku21 hf_) | exact ok1.i | (exact LI.z (fun h => absurd h (by decide))) | (exact absurd hf_ (by omega)) | omega) | (unfold FPZ; (try simp only [Ks232, Fs232]); omega) | (unfold FQZ; (try simp only [Ks232, Fs232]); omega) | omega | (have zz_ := fz_z (by assumption); omega) | (split <;> omega) | done))
                · refine ⟨(by (try simp only [rng, Ks1, Fs1]); (all_goals (repeat' (first | with_reducible intro _ | with_reducible apply And.intro | with_reducible refine Exists.intro g ?_ | with_reducible refine Im.and ?_ ?_))); all_goals (first | assumption | trivial | ((with_reducible refine Im.i fun hf_ => ?_); first | exact (A1 hf_) | exact (Gu2 hf_) | exact (Ku1 hf_) | exact ok1.i | (exact LI.z (fun h => absurd h (by decide))) | (exact absurd hf_ (by omega)) | omega) | (unfold FPZ; (try simp only [Ks1, Fs1]); omega) | (unfold FQZ; (try simp only [Ks1, Fs1]); omega) | omega | (have zz_ := fz_z (by assumption); omega) | (split <;> omega) | done)), ?_⟩
                  refine ⟨(by (try simp only [pre_X14_sign, reduceIte, and_true, true_and, and_false, false_and, and_self, Nat.reduceEqDiff, fz_sF17, rF_sF, rA_sF, rR_sF, tr_sF, rNMp_sF, PNp_sF, GS_F17, OP_F17, NR_F17, LI_F17, RG_l17, RG_r17, TPRp_sF17, WNp_sF17, VMp_sF17, KYp_sF17, PPp_sF17, WFp_sF17, CCp_sF17, rk_n0 hp_2, Ks1, Fs1]); (all_goals (repeat' (first | with_reducible intro _ | with_reducible apply And.intro | with_reducible refine Exists.intro g ?_ | with_reducible refine Im.and ?_ ?_))); all_goals (first | assumption | trivial | ((with_reducible refine Im.i fun hf_ => ?_); first | exact (A1 hf_) | exact (Gu2 hf_) | exact (Ku1 hf_) | exact ok1.i | (exact LI.z (fun h => absurd h (by decide))) | (exact absurd hf_ (by omega)) | omega) | (unfold FPZ; (try simp only [reduceIte, and_true, true_and, and_false, false_and, and_self, Nat.reduceEqDiff, fz_sF17, rF_sF, rA_sF, rR_sF, tr_sF, rNMp_sF, PNp_sF, GS_F17, OP_F17, NR_F17, LI_F17, RG_l17, RG_r17, TPRp_sF17, WNp_sF17, VMp_sF17, KYp_sF17, PPp_sF17, WFp_sF17, CCp_sF17, rk_n0 hp_2, Ks1, Fs1]); omega) | (unfold FQZ; (try simp only [reduceIte, and_true, true_and, and_false, false_and, and_self, Nat.reduceEqDiff, fz_sF17, rF_sF, rA_sF, rR_sF, tr_sF, rNMp_sF, PNp_sF, GS_F17, OP_F17, NR_F17, LI_F17, RG_l17, RG_r17, TPRp_sF17, WNp_sF17, VMp_sF17, KYp_sF17, PPp_sF17, WFp_sF17, CCp_sF17, rk_n0 hp_2, Ks1, Fs1]); omega) | omega | (have zz_ := fz_z (by assumption); omega) | (split <;> omega) | done)), ?_⟩
                  intro s213 Ws213 e213_0 e213_1 e213_2 e213_3 e213_4 e213_5 e213_6 e213_7 e213_8 e213_9 e213_10 e213_11 e213_12 e213_13 e213_14 e213_15 e213_16 e213_17 e213_18 e213_19 e213_20 e213_21 e213_22 e213_23 e213_24 e213_25 e213_26 e213_27 e213_28 e213_29 R213 q213
                  have q213 := dig_X14_sign q213
                  obtain ⟨q213_1, q213_2, q213_3, q213_4⟩ := q213
                  (try simp only [reduceIte, and_true, true_and, and_false, false_and, and_self, Nat.reduceEqDiff, fz_sF17, rF_sF, rA_sF, rR_sF, tr_sF, rNMp_sF, PNp_sF, GS_F17, OP_F17, NR_F17, LI_F17, RG_l17, RG_r17, TPRp_sF17, WNp_sF17, VMp_sF17, KYp_sF17, PPp_sF17, WFp_sF17, CCp_sF17, rk_n0 hp_2, Ks1, Fs1, FPZ, FQZ] at q213_1 q213_2 q213_3 q213_4 e213_0 e213_1 e213_2 e213_3 e213_4 e213_5 e213_6 e213_7 e213_8 e213_9 e213_10 e213_11 e213_12 e213_13 e213_14 e213_15 e213_16 e213_17 e213_18 e213_19 e213_20 e213_21 e213_22 e213_23 e213_24 e213_25 e213_26 e213_27 e213_28 e213_29 R213)
                  have Ks213 : rR s213 7 = rR σ 7 := by first | assumption | ((try simp only [rR_sF, rR_sA, rR_sT, rR_sL] at e213_0 e213_1 e213_2 e213_3 e213_4 e213_5 e213_6 e213_7 e213_8 e213_9 e213_10 e213_11 e213_12 e213_13 e213_14 e213_15 e213_16 e213_17 e213_18 e213_19 e213_20 e213_21 e213_22 e213_23 e213_24 e213_25 e213_26 e213_27 e213_28 e213_29 R213); omega)
                  have Fs213 : rR s213 15 = rR σ 15 := by first | assumption | ((try simp only [rR_sF, rR_sA, rR_sT, rR_sL] at e213_0 e213_1 e213_2 e213_3 e213_4 e213_5 e213_6 e213_7 e213_8 e213_9 e213_10 e213_11 e213_12 e213_13 e213_14 e213_15 e213_16 e213_17 e213_18 e213_19 e213_20 e213_21 e213_22 e213_23 e213_24 e213_25 e213_26 e213_27 e213_28 e213_29 R213); omega)
                  have zr213 := fz_rng s213
                  have zc213 : fz s213 = 0 → fz s1 = 0 := fun hf => by omega
                  have A213 : Im (fz s213 = 0) (RG (RT σ) s213 (rR σ 7) 0) := fun hf => RG.trk hp_2 (A1 (zc213 hf)) R213 (Or.inr (Or.inl rfl))
                  have Ku23 : Im (fz s213 = 0) (GK g g (rF σ (rR σ 7) 7) (rF s213 (rR σ 7) 7) 0) := fun hf => GK.trans (Ku1 (zc213 hf)) (GK.up (N := rF s1 (rR σ 7) 7) (N' := rF s213 (rR σ 7) 7) (c := 0) (by first | assumption | omega | (simp only [rF_sT, rF_sA]; omega))) (Or.inr (Or.inl rfl))
                  have Gu24 : Im (fz s213 = 0) (GS s213 (rR σ 7) g) := fun hf => GS.mv hp_2 (Gu2 (zc213 hf)) R213 (by first | assumption | omega | (simp only [rF_sT, rF_sA]; omega)) (by first | (exact Int.le_of_eq (Eq.symm (by assumption))) | omega | (simp only [rF_sT, rF_sA]; omega))
                  have rNMp_213 := e213_0 rNMp_1; clear e213_0
                  have PNp_213 := e213_1 PNp_1; clear e213_1
                  refine ⟨(by (try simp only [pre_X14_node_t, Ks213, Fs213]); (all_goals (repeat' (first | with_reducible intro _ | with_reducible apply And.intro | with_reducible refine Exists.intro g ?_ | with_reducible refine Im.and ?_ ?_))); all_goals (first | assumption | trivial | ((with_reducible refine Im.i fun hf_ => ?_); first | exact (A213 hf_) | exact (Gu24 hf_) | exact (Ku23 hf_) | exact ok1.i | (exact LI.z (fun h => absurd h (by decide))) | (exact absurd hf_ (by omega)) | omega) | (unfold FPZ; (try simp only [Ks213, Fs213]); omega) | (unfold FQZ; (try simp only [Ks213, Fs213]); omega) | omega | (have zz_ := fz_z (by assumption); omega) | (split <;> omega) | done)), ?_⟩
                  intro v222 s222 hv222 Ws222 e222_0 e222_1 e222_2 e222_3 e222_4 e222_5 e222_6 e222_7 e222_8 e222_9 e222_10 e222_11 e222_12 e222_13 e222_14 e222_15 e222_16 e222_17 e222_18 e222_19 e222_20 e222_21 e222_22 e222_23 e222_24 e222_25 e222_26 e222_27 e222_28 e222_29 e222_30 q222
                  unfold rng at hv222
                  unfold post_X14_node_t at q222
                  obtain ⟨q222_1, q222_2, q222_3, q222_4, q222_5, q222_6, q222_7, q222_8, q222_9, q222_10⟩ := q222
                  (try simp only [Ks213, Fs213, FPZ, FQZ] at q222_1 q222_2 q222_3 q222_4 q222_5 q222_6 q222_7 q222_8 q222_9 q222_10 e222_0 e222_1 e222_2 e222_3 e222_4 e222_5 e222_6 e222_7 e222_8 e222_9 e222_10 e222_11 e222_12 e222_13 e222_14 e222_15 e222_16 e222_17 e222_18 e222_19 e222_20 e222_21 e222_22 e222_23 e222_24 e222_25 e222_26 e222_27 e222_28 e222_29 e222_30)
                  have Ks222 : rR s222 7 = rR σ 7 := by first | assumption | ((try simp only [rR_sF, rR_sA, rR_sT, rR_sL] at e222_0 e222_1 e222_2 e222_3 e222_4 e222_5 e222_6 e222_7 e222_8 e222_9 e222_10 e222_11 e222_12 e222_13 e222_14 e222_15 e222_16 e222_17 e222_18 e222_19 e222_20 e222_21 e222_22 e222_23 e222_24 e222_25 e222_26 e222_27 e222_28 e222_29 e222_30); omega)
                  have Fs222 : rR s222 15 = rR σ 15 := by first | assumption | ((try simp only [rR_sF, rR_sA, rR_sT, rR_sL] at e222_0 e222_1 e222_2 e222_3 e222_4 e222_5 e222_6 e222_7 e222_8 e222_9 e222_10 e222_11 e222_12 e222_13 e222_14 e222_15 e222_16 e222_17 e222_18 e222_19 e222_20 e222_21 e222_22 e222_23 e222_24 e222_25 e222_26 e222_27 e222_28 e222_29 e222_30); omega)
                  have zr222 := fz_rng s222
                  have zc222 : fz s222 = 0 → fz s213 = 0 := fun hf => by omega
                  have A222 : Im (fz s222 = 0) (RG (RT σ) s222 (rR σ 7) 0) := fun hf => RG.trk hp_2 (A213 (zc222 hf)) q222_3 (Or.inr (Or.inl rfl))
                  obtain ⟨g222, X222⟩ := EN_34 (P := fz s222 = 0) 0 0 hp_2 (fun hf => Gu24 (zc222 hf)) (fun hf => q222_3) q222_1 q222_2 q222_4 q222_5 q222_6 q222_9 (fun hf => by (try simp only [rF_sT, rF_sA]); (repeat' (with_reducible apply And.intro)) <;> first | trivial | omega)
                  have Ku25 : Im (fz s222 = 0) (GK g g222 (rF σ (rR σ 7) 7) (rF s222 (rR σ 7) 7) 0) := fun hf => GK.gs (Ku23 (zc222 hf)) (X222 hf).2.1
                  have Gu26 : Im (fz s222 = 0) _ := fun hf => (X222 hf).1
                  have O222 : Im (fz s222 = 0) _ := fun hf => (X222 hf).2.2.1
                  have L222_1 : Im (fz s222 = 0) (LI s222 (rR σ 7) g222 v222 1 34 0) := fun hf => LI.z (fun h => (X222 hf).2.2.2)
                  have rNMp_222 := e222_0 rNMp_213; clear e222_0
                  obtain ⟨gu27, Xu28⟩ := EC_34 (P := fz s222 = 0) 0 Gu26 O222 (fun hf => by omega)
                  have O222u29 : Im (fz s222 = 0) _ := fun hf => (Xu28 hf).2.1
                  have Ku30 : Im (fz s222 = 0) (GK g gu27 (rF σ (rR σ 7) 7) (rF s222 (rR σ 7) 7) 0) := fun hf => GK.kc (Ku25 hf) (Xu28 hf).2.2 (by omega)
                  have Gu31 : Im (fz s222 = 0) _ := fun hf => (Xu28 hf).1
                  have Vu32 : Im (fz s222 = 0) _ := fun hf => NR_re19 (O222u29 hf) (Xu28 hf).2.2 (O222 hf) (by rw [so_19]; omega)
                  exact (by (try simp only [post_X14_readValue, Ks222, Fs222]); (all_goals (repeat' (first | with_reducible intro _ | with_reducible apply And.intro | with_reducible refine Exists.intro gu27 ?_ | with_reducible refine Im.and ?_ ?_))); all_goals (first | assumption | trivial | ((with_reducible refine Im.i fun hf_ => ?_); first | exact (A222 hf_) | exact (Gu31 hf_) | exact (Ku30 hf_) | exact (Vu32 hf_).cst | exact ok1.i | (exact LI.z (fun h => absurd h (by decide))) | (exact absurd hf_ (by omega)) | omega) | (unfold FPZ; (try simp only [Ks222, Fs222]); omega) | (unfold FQZ; (try simp only [Ks222, Fs222]); omega) | omega | (have zz_ := fz_z (by assumption); omega) | (split <;> omega) | done))
            · refine ⟨(by (try simp only [pre_X14_isFileWord_f, Ks1, Fs1]); (all_goals (repeat' (first | with_reducible intro _ | with_reducible apply And.intro | with_reducible refine Exists.intro g ?_ | with_reducible refine Im.and ?_ ?_))); all_goals (first | assumption | trivial | ((with_reducible refine Im.i fun hf_ => ?_); first | exact (A1 hf_) | exact (Gu2 hf_) | exact (Ku1 hf_) | exact ok1.i | (exact LI.z (fun h => absurd h (by decide))) | (exact absurd hf_ (by omega)) | omega) | (unfold FPZ; (try simp only [Ks1, Fs1]); omega) | (unfold FQZ; (try simp only [Ks1, Fs1]); omega) | omega | (have zz_ := fz_z (by assumption); omega) | (split <;> omega) | done)), ?_⟩
              intro v156 hv156 q156
              unfold rng at hv156
              unfold post_X14_isFileWord_f at q156
              obtain ⟨q156_1, q156_2, q156_3⟩ := q156
              (try simp only [Ks1, Fs1, FPZ, FQZ] at q156_1 q156_2 q156_3)
              refine ⟨fun c159 => ?_, fun c159 => ?_⟩
              · refine ⟨fun c183 => ?_, fun c183 => ?_⟩
                · refine ⟨(by (try simp only [pre_X14_bad, Ks1, Fs1]); (all_goals (repeat' (first | with_reducible intro _ | with_reducible apply And.intro | with_reducible refine Exists.intro g ?_ | with_reducible refine Im.and ?_ ?_))); all_goals (first | assumption | trivial | ((with_reducible refine Im.i fun hf_ => ?_); first | exact (A1 hf_) | exact (Gu2 hf_) | exact (Ku1 hf_) | exact ok1.i | (exact LI.z (fun h => absurd h (by decide))) | (exact absurd hf_ (by omega)) | omega) | (unfold FPZ; (try simp only [Ks1, Fs1]); omega) | (unfold FQZ; (try simp only [Ks1, Fs1]); omega) | omega | (have zz_ := fz_z (by assumption); omega) | (split <;> omega) | done)), ?_⟩
                  intro s232 Ws232 e232_0 e232_1 e232_2 e232_3 e232_4 e232_5 e232_6 e232_7 e232_8 e232_9 e232_10 e232_11 e232_12 e232_13 e232_14 e232_15 e232_16 e232_17 e232_18 e232_19 e232_20 e232_21 e232_22 e232_23 e232_24 e232_25 e232_26 e232_27 e232_28 e232_29 e232_30 R232 q232
                  have q232 := dig_bad q232 (by (try simp only [Ks1, Fs1]); omega)
                  obtain ⟨q232_1, q232_2⟩ := q232
                  (try simp only [Ks1, Fs1, FPZ, FQZ] at q232_1 q232_2 e232_0 e232_1 e232_2 e232_3 e232_4 e232_5 e232_6 e232_7 e232_8 e232_9 e232_10 e232_11 e232_12 e232_13 e232_14 e232_15 e232_16 e232_17 e232_18 e232_19 e232_20 e232_21 e232_22 e232_23 e232_24 e232_25 e232_26 e232_27 e232_28 e232_29 e232_30 R232)
                  have Ks232 : rR s232 7 = rR σ 7 := by first | assumption | ((try simp only [rR_sF, rR_sA, rR_sT, rR_sL] at e232_0 e232_1 e232_2 e232_3 e232_4 e232_5 e232_6 e232_7 e232_8 e232_9 e232_10 e232_11 e232_12 e232_13 e232_14 e232_15 e232_16 e232_17 e232_18 e232_19 e232_20 e232_21 e232_22 e232_23 e232_24 e232_25 e232_26 e232_27 e232_28 e232_29 e232_30 R232); omega)
                  have Fs232 : rR s232 15 = rR σ 15 := by first | assumption | ((try simp only [rR_sF, rR_sA, rR_sT, rR_sL] at e232_0 e232_1 e232_2 e232_3 e232_4 e232_5 e232_6 e232_7 e232_8 e232_9 e232_10 e232_11 e232_12 e232_13 e232_14 e232_15 e232_16 e232_17 e232_18 e232_19 e232_20 e232_21 e232_22 e232_23 e232_24 e232_25 e232_26 e232_27 e232_28 e232_29 e232_30 R232); omega)
                  have zr232 := fz_rng s232
                  have zc232 : fz s232 = 0 → fz s1 = 0 := fun hf => by omega
                  have A232 : Im (fz s232 = 0) (RG (RT σ) s232 (rR σ 7) 0) := fun hf => RG.trk hp_2 (A1 (zc232 hf)) R232 (Or.inr (Or.inl rfl))
                  have Ku33 : Im (fz s232 = 0) (GK g g (rF σ (rR σ 7) 7) (rF s232 (rR σ 7) 7) 0) := fun hf => GK.trans (Ku1 (zc232 hf)) (GK.up (N := rF s1 (rR σ 7) 7) (N' := rF s232 (rR σ 7) 7) (c := 0) (by first | assumption | omega | (simp only [rF_sT, rF_sA]; omega))) (Or.inr (Or.inl rfl))
                  have Gu34 : Im (fz s232 = 0) (GS s232 (rR σ 7) g) := fun hf => GS.mv hp_2 (Gu2 (zc232 hf)) R232 (by first | assumption | omega | (simp only [rF_sT, rF_sA]; omega)) (by first | (exact Int.le_of_eq (Eq.symm (by assumption))) | omega | (simp only [rF_sT, rF_sA]; omega))
                  have rNMp_232 := e232_0 rNMp_1; clear e232_0
                  have PNp_232 := e232_1 PNp_1; clear e232_1
                  exact (by (try simp only [post_X14_readValue, Ks232, Fs232]); (all_goals (repeat' (first | with_reducible intro _ | with_reducible apply And.intro | with_reducible refine Exists.intro g ?_ | with_reducible refine Im.and ?_ ?_))); all_goals (first | assumption | trivial | ((with_reducible refine Im.i fun hf_ => ?_); first | exact (A232 hf_) | exact (Gu34 hf_) | exact (Ku33 hf_) | exact ok1.i | (exact LI.z (fun h => absurd h (by decide))) | (exact absurd hf_ (by omega)) | omega) | (unfold FPZ; (try simp only [Ks232, Fs232]); omega) | (unfold FQZ; (try simp only [Ks232, Fs232]); omega) | omega | (have zz_ := fz_z (by assumption); omega) | (split <;> omega) | done))
                · refine ⟨(by (try simp only [pre_X14_fc, Ks1, Fs1]); (all_goals (repeat' (first | with_reducible intro _ | with_reducible apply And.intro | with_reducible refine Exists.intro g ?_ | with_reducible refine Im.and ?_ ?_))); all_goals (first | assumption | trivial | ((with_reducible refine Im.i fun hf_ => ?_); first | exact (A1 hf_) | exact (Gu2 hf_) | exact (Ku1 hf_) | exact ok1.i | (exact LI.z (fun h => absurd h (by decide))) | (exact absurd hf_ (by omega)) | omega) | (unfold FPZ; (try simp only [Ks1, Fs1]); omega) | (unfold FQZ; (try simp only [Ks1, Fs1]); omega) | omega | (have zz_ := fz_z (by assumption); omega) | (split <;> omega) | done)), ?_⟩
                  intro v191 hv191 q191
                  unfold rng at hv191
                  unfold post_X14_fc at q191
                  obtain ⟨q191_1, q191_2⟩ := q191
                  (try simp only [Ks1, Fs1, FPZ, FQZ] at q191_1 q191_2)
                  refine ⟨fun c196 => ?_, fun c196 => ?_⟩
                  · refine ⟨(by (try simp only [pre_X14_bad, Ks1, Fs1]); (all_goals (repeat' (first | with_reducible intro _ | with_reducible apply And.intro | with_reducible refine Exists.intro g ?_ | with_reducible refine Im.and ?_ ?_))); all_goals (first | assumption | trivial | ((with_reducible refine Im.i fun hf_ => ?_); first | exact (A1 hf_) | exact (Gu2 hf_) | exact (Ku1 hf_) | exact ok1.i | (exact LI.z (fun h => absurd h (by decide))) | (exact absurd hf_ (by omega)) | omega) | (unfold FPZ; (try simp only [Ks1, Fs1]); omega) | (unfold FQZ; (try simp only [Ks1, Fs1]); omega) | omega | (have zz_ := fz_z (by assumption); omega) | (split <;> omega) | done)), ?_⟩
                    intro s232 Ws232 e232_0 e232_1 e232_2 e232_3 e232_4 e232_5 e232_6 e232_7 e232_8 e232_9 e232_10 e232_11 e232_12 e232_13 e232_14 e232_15 e232_16 e232_17 e232_18 e232_19 e232_20 e232_21 e232_22 e232_23 e232_24 e232_25 e232_26 e232_27 e232_28 e232_29 e232_30 R232 q232
                    have q232 := dig_bad q232 (by (try simp only [Ks1, Fs1]); omega)
                    obtain ⟨q232_1, q232_2⟩ := q232
                    (try simp only [Ks1, Fs1, FPZ, FQZ] at q232_1 q232_2 e232_0 e232_1 e232_2 e232_3 e232_4 e232_5 e232_6 e232_7 e232_8 e232_9 e232_10 e232_11 e232_12 e232_13 e232_14 e232_15 e232_16 e232_17 e232_18 e232_19 e232_20 e232_21 e232_22 e232_23 e232_24 e232_25 e232_26 e232_27 e232_28 e232_29 e232_30 R232)
                    have Ks232 : rR s232 7 = rR σ 7 := by first | assumption | ((try simp only [rR_sF, rR_sA, rR_sT, rR_sL] at e232_0 e232_1 e232_2 e232_3 e232_4 e232_5 e232_6 e232_7 e232_8 e232_9 e232_10 e232_11 e232_12 e232_13 e232_14 e232_15 e232_16 e232_17 e232_18 e232_19 e232_20 e232_21 e232_22 e232_23 e232_24 e232_25 e232_26 e232_27 e232_28 e232_29 e232_30 R232); omega)
                    have Fs232 : rR s232 15 = rR σ 15 := by first | assumption | ((try simp only [rR_sF, rR_sA, rR_sT, rR_sL] at e232_0 e232_1 e232_2 e232_3 e232_4 e232_5 e232_6 e232_7 e232_8 e232_9 e232_10 e232_11 e232_12 e232_13 e232_14 e232_15 e232_16 e232_17 e232_18 e232_19 e232_20 e232_21 e232_22 e232_23 e232_24 e232_25 e232_26 e232_27 e232_28 e232_29 e232_30 R232); omega)
                    have zr232 := fz_rng s232
                    have zc232 : fz s232 = 0 → fz s1 = 0 := fun hf => by omega
                    have A232 : Im (fz s232 = 0) (RG (RT σ) s232 (rR σ 7) 0) := fun hf => RG.trk hp_2 (A1 (zc232 hf)) R232 (Or.inr (Or.inl rfl))
                    have Ku35 : Im (fz s232 = 0) (GK g g (rF σ (rR σ 7) 7) (rF s232 (rR σ 7) 7) 0) := fun hf => GK.trans (Ku1 (zc232 hf)) (GK.up (N := rF s1 (rR σ 7) 7) (N' := rF s232 (rR σ 7) 7) (c := 0) (by first | assumption | omega | (simp only [rF_sT, rF_sA]; omega))) (Or.inr (Or.inl rfl))
                    have Gu36 : Im (fz s232 = 0) (GS s232 (rR σ 7) g) := fun hf => GS.mv hp_2 (Gu2 (zc232 hf)) R232 (by first | assumption | omega | (simp only [rF_sT, rF_sA]; omega)) (by first | (exact Int.le_of_eq (Eq.symm (by assumption))) | omega | (simp only [rF_sT, rF_sA]; omega))
                    have rNMp_232 := e232_0 rNMp_1; clear e232_0
                    have PNp_232 := e232_1 PNp_1; clear e232_1
                    exact (by (try simp only [post_X14_readValue, Ks232, Fs232]); (all_goals (repeat' (first | with_reducible intro _ | with_reducible apply And.intro | with_reducible refine Exists.intro g ?_ | with_reducible refine Im.and ?_ ?_))); all_goals (first | assumption | trivial | ((with_reducible refine Im.i fun hf_ => ?_); first | exact (A232 hf_) | exact (Gu36 hf_) | exact (Ku35 hf_) | exact ok1.i | (exact LI.z (fun h => absurd h (by decide))) | (exact absurd hf_ (by omega)) | omega) | (unfold FPZ; (try simp only [Ks232, Fs232]); omega) | (unfold FQZ; (try simp only [Ks232, Fs232]); omega) | omega | (have zz_ := fz_z (by assumption); omega) | (split <;> omega) | done))
                  · refine ⟨(by (try simp only [rng, Ks1, Fs1]); (all_goals (repeat' (first | with_reducible intro _ | with_reducible apply And.intro | with_reducible refine Exists.intro g ?_ | with_reducible refine Im.and ?_ ?_))); all_goals (first | assumption | trivial | ((with_reducible refine Im.i fun hf_ => ?_); first | exact (A1 hf_) | exact (Gu2 hf_) | exact (Ku1 hf_) | exact ok1.i | (exact LI.z (fun h => absurd h (by decide))) | (exact absurd hf_ (by omega)) | omega) | (unfold FPZ; (try simp only [Ks1, Fs1]); omega) | (unfold FQZ; (try simp only [Ks1, Fs1]); omega) | omega | (have zz_ := fz_z (by assumption); omega) | (split <;> omega) | done)), ?_⟩
                    refine ⟨(by (try simp only [pre_X14_sign, reduceIte, and_true, true_and, and_false, false_and, and_self, Nat.reduceEqDiff, fz_sF17, rF_sF, rA_sF, rR_sF, tr_sF, rNMp_sF, PNp_sF, GS_F17, OP_F17, NR_F17, LI_F17, RG_l17, RG_r17, TPRp_sF17, WNp_sF17, VMp_sF17, KYp_sF17, PPp_sF17, WFp_sF17, CCp_sF17, rk_n0 hp_2, Ks1, Fs1]); (all_goals (repeat' (first | with_reducible intro _ | with_reducible apply And.intro | with_reducible refine Exists.intro g ?_ | with_reducible refine Im.and ?_ ?_))); all_goals (first | assumption | trivial | ((with_reducible refine Im.i fun hf_ => ?_); first | exact (A1 hf_) | exact (Gu2 hf_) | exact (Ku1 hf_) | exact ok1.i | (exact LI.z (fun h => absurd h (by decide))) | (exact absurd hf_ (by omega)) | omega) | (unfold FPZ; (try simp only [reduceIte, and_true, true_and, and_false, false_and, and_self, Nat.reduceEqDiff, fz_sF17, rF_sF, rA_sF, rR_sF, tr_sF, rNMp_sF, PNp_sF, GS_F17, OP_F17, NR_F17, LI_F17, RG_l17, RG_r17, TPRp_sF17, WNp_sF17, VMp_sF17, KYp_sF17, PPp_sF17, WFp_sF17, CCp_sF17, rk_n0 hp_2, Ks1, Fs1]); omega) | (unfold FQZ; (try simp only [reduceIte, and_true, true_and, and_false, false_and, and_self, Nat.reduceEqDiff, fz_sF17, rF_sF, rA_sF, rR_sF, tr_sF, rNMp_sF, PNp_sF, GS_F17, OP_F17, NR_F17, LI_F17, RG_l17, RG_r17, TPRp_sF17, WNp_sF17, VMp_sF17, KYp_sF17, PPp_sF17, WFp_sF17, CCp_sF17, rk_n0 hp_2, Ks1, Fs1]); omega) | omega | (have zz_ := fz_z (by assumption); omega) | (split <;> omega) | done)), ?_⟩
                    intro s213 Ws213 e213_0 e213_1 e213_2 e213_3 e213_4 e213_5 e213_6 e213_7 e213_8 e213_9 e213_10 e213_11 e213_12 e213_13 e213_14 e213_15 e213_16 e213_17 e213_18 e213_19 e213_20 e213_21 e213_22 e213_23 e213_24 e213_25 e213_26 e213_27 e213_28 e213_29 R213 q213
                    have q213 := dig_X14_sign q213
                    obtain ⟨q213_1, q213_2, q213_3, q213_4⟩ := q213
                    (try simp only [reduceIte, and_true, true_and, and_false, false_and, and_self, Nat.reduceEqDiff, fz_sF17, rF_sF, rA_sF, rR_sF, tr_sF, rNMp_sF, PNp_sF, GS_F17, OP_F17, NR_F17, LI_F17, RG_l17, RG_r17, TPRp_sF17, WNp_sF17, VMp_sF17, KYp_sF17, PPp_sF17, WFp_sF17, CCp_sF17, rk_n0 hp_2, Ks1, Fs1, FPZ, FQZ] at q213_1 q213_2 q213_3 q213_4 e213_0 e213_1 e213_2 e213_3 e213_4 e213_5 e213_6 e213_7 e213_8 e213_9 e213_10 e213_11 e213_12 e213_13 e213_14 e213_15 e213_16 e213_17 e213_18 e213_19 e213_20 e213_21 e213_22 e213_23 e213_24 e213_25 e213_26 e213_27 e213_28 e213_29 R213)
                    have Ks213 : rR s213 7 = rR σ 7 := by first | assumption | ((try simp only [rR_sF, rR_sA, rR_sT, rR_sL] at e213_0 e213_1 e213_2 e213_3 e213_4 e213_5 e213_6 e213_7 e213_8 e213_9 e213_10 e213_11 e213_12 e213_13 e213_14 e213_15 e213_16 e213_17 e213_18 e213_19 e213_20 e213_21 e213_22 e213_23 e213_24 e213_25 e213_26 e213_27 e213_28 e213_29 R213); omega)
                    have Fs213 : rR s213 15 = rR σ 15 := by first | assumption | ((try simp only [rR_sF, rR_sA, rR_sT, rR_sL] at e213_0 e213_1 e213_2 e213_3 e213_4 e213_5 e213_6 e213_7 e213_8 e213_9 e213_10 e213_11 e213_12 e213_13 e213_14 e213_15 e213_16 e213_17 e213_18 e213_19 e213_20 e213_21 e213_22 e213_23 e213_24 e213_25 e213_26 e213_27 e213_28 e213_29 R213); omega)
                    have zr213 := fz_rng s213
                    have zc213 : fz s213 = 0 → fz s1 = 0 := fun hf => by omega
                    have A213 : Im (fz s213 = 0) (RG (RT σ) s213 (rR σ 7) 0) := fun hf => RG.trk hp_2 (A1 (zc213 hf)) R213 (Or.inr (Or.inl rfl))
                    have Ku37 : Im (fz s213 = 0) (GK g g (rF σ (rR σ 7) 7) (rF s213 (rR σ 7) 7) 0) := fun hf => GK.trans (Ku1 (zc213 hf)) (GK.up (N := rF s1 (rR σ 7) 7) (N' := rF s213 (rR σ 7) 7) (c := 0) (by first | assumption | omega | (simp only [rF_sT, rF_sA]; omega))) (Or.inr (Or.inl rfl))
                    have Gu38 : Im (fz s213 = 0) (GS s213 (rR σ 7) g) := fun hf => GS.mv hp_2 (Gu2 (zc213 hf)) R213 (by first | assumption | omega | (simp only [rF_sT, rF_sA]; omega)) (by first | (exact Int.le_of_eq (Eq.symm (by assumption))) | omega | (simp only [rF_sT, rF_sA]; omega))
                    have rNMp_213 := e213_0 rNMp_1; clear e213_0
                    have PNp_213 := e213_1 PNp_1; clear e213_1
                    refine ⟨(by (try simp only [pre_X14_node_t, Ks213, Fs213]); (all_goals (repeat' (first | with_reducible intro _ | with_reducible apply And.intro | with_reducible refine Exists.intro g ?_ | with_reducible refine Im.and ?_ ?_))); all_goals (first | assumption | trivial | ((with_reducible refine Im.i fun hf_ => ?_); first | exact (A213 hf_) | exact (Gu38 hf_) | exact (Ku37 hf_) | exact ok1.i | (exact LI.z (fun h => absurd h (by decide))) | (exact absurd hf_ (by omega)) | omega) | (unfold FPZ; (try simp only [Ks213, Fs213]); omega) | (unfold FQZ; (try simp only [Ks213, Fs213]); omega) | omega | (have zz_ := fz_z (by assumption); omega) | (split <;> omega) | done)), ?_⟩
                    intro v222 s222 hv222 Ws222 e222_0 e222_1 e222_2 e222_3 e222_4 e222_5 e222_6 e222_7 e222_8 e222_9 e222_10 e222_11 e222_12 e222_13 e222_14 e222_15 e222_16 e222_17 e222_18 e222_19 e222_20 e222_21 e222_22 e222_23 e222_24 e222_25 e222_26 e222_27 e222_28 e222_29 e222_30 q222
                    unfold rng at hv222
                    unfold post_X14_node_t at q222
                    obtain ⟨q222_1, q222_2, q222_3, q222_4, q222_5, q222_6, q222_7, q222_8, q222_9, q222_10⟩ := q222
                    (try simp only [Ks213, Fs213, FPZ, FQZ] at q222_1 q222_2 q222_3 q222_4 q222_5 q222_6 q222_7 q222_8 q222_9 q222_10 e222_0 e222_1 e222_2 e222_3 e222_4 e222_5 e222_6 e222_7 e222_8 e222_9 e222_10 e222_11 e222_12 e222_13 e222_14 e222_15 e222_16 e222_17 e222_18 e222_19 e222_20 e222_21 e222_22 e222_23 e222_24 e222_25 e222_26 e222_27 e222_28 e222_29 e222_30)
                    have Ks222 : rR s222 7 = rR σ 7 := by first | assumption | ((try simp only [rR_sF, rR_sA, rR_sT, rR_sL] at e222_0 e222_1 e222_2 e222_3 e222_4 e222_5 e222_6 e222_7 e222_8 e222_9 e222_10 e222_11 e222_12 e222_13 e222_14 e222_15 e222_16 e222_17 e222_18 e222_19 e222_20 e222_21 e222_22 e222_23 e222_24 e222_25 e222_26 e222_27 e222_28 e222_29 e222_30); omega)
                    have Fs222 : rR s222 15 = rR σ 15 := by first | assumption | ((try simp only [rR_sF, rR_sA, rR_sT, rR_sL] at e222_0 e222_1 e222_2 e222_3 e222_4 e222_5 e222_6 e222_7 e222_8 e222_9 e222_10 e222_11 e222_12 e222_13 e222_14 e222_15 e222_16 e222_17 e222_18 e222_19 e222_20 e222_21 e222_22 e222_23 e222_24 e222_25 e222_26 e222_27 e222_28 e222_29 e222_30); omega)
                    have zr222 := fz_rng s222
                    have zc222 : fz s222 = 0 → fz s213 = 0 := fun hf => by omega
                    have A222 : Im (fz s222 = 0) (RG (RT σ) s222 (rR σ 7) 0) := fun hf => RG.trk hp_2 (A213 (zc222 hf)) q222_3 (Or.inr (Or.inl rfl))
                    obtain ⟨g222, X222⟩ := EN_34 (P := fz s222 = 0) 0 0 hp_2 (fun hf => Gu38 (zc222 hf)) (fun hf => q222_3) q222_1 q222_2 q222_4 q222_5 q222_6 q222_9 (fun hf => by (try simp only [rF_sT, rF_sA]); (repeat' (with_reducible apply And.intro)) <;> first | trivial | omega)
                    have Ku39 : Im (fz s222 = 0) (GK g g222 (rF σ (rR σ 7) 7) (rF s222 (rR σ 7) 7) 0) := fun hf => GK.gs (Ku37 (zc222 hf)) (X222 hf).2.1
                    have Gu40 : Im (fz s222 = 0) _ := fun hf => (X222 hf).1
                    have O222 : Im (fz s222 = 0) _ := fun hf => (X222 hf).2.2.1
                    have L222_1 : Im (fz s222 = 0) (LI s222 (rR σ 7) g222 v222 1 34 0) := fun hf => LI.z (fun h => (X222 hf).2.2.2)
                    have rNMp_222 := e222_0 rNMp_213; clear e222_0
                    obtain ⟨gu41, Xu42⟩ := EC_34 (P := fz s222 = 0) 0 Gu40 O222 (fun hf => by omega)
                    have O222u43 : Im (fz s222 = 0) _ := fun hf => (Xu42 hf).2.1
                    have Ku44 : Im (fz s222 = 0) (GK g gu41 (rF σ (rR σ 7) 7) (rF s222 (rR σ 7) 7) 0) := fun hf => GK.kc (Ku39 hf) (Xu42 hf).2.2 (by omega)
                    have Gu45 : Im (fz s222 = 0) _ := fun hf => (Xu42 hf).1
                    have Vu46 : Im (fz s222 = 0) _ := fun hf => NR_re19 (O222u43 hf) (Xu42 hf).2.2 (O222 hf) (by rw [so_19]; omega)
                    exact (by (try simp only [post_X14_readValue, Ks222, Fs222]); (all_goals (repeat' (first | with_reducible intro _ | with_reducible apply And.intro | with_reducible refine Exists.intro gu41 ?_ | with_reducible refine Im.and ?_ ?_))); all_goals (first | assumption | trivial | ((with_reducible refine Im.i fun hf_ => ?_); first | exact (A222 hf_) | exact (Gu45 hf_) | exact (Ku44 hf_) | exact (Vu46 hf_).cst | exact ok1.i | (exact LI.z (fun h => absurd h (by decide))) | (exact absurd hf_ (by omega)) | omega) | (unfold FPZ; (try simp only [Ks222, Fs222]); omega) | (unfold FQZ; (try simp only [Ks222, Fs222]); omega) | omega | (have zz_ := fz_z (by assumption); omega) | (split <;> omega) | done))
              · refine ⟨(by (try simp only [rng, Ks1, Fs1]); (all_goals (repeat' (first | with_reducible intro _ | with_reducible apply And.intro | with_reducible refine Exists.intro g ?_ | with_reducible refine Im.and ?_ ?_))); all_goals (first | assumption | trivial | ((with_reducible refine Im.i fun hf_ => ?_); first | exact (A1 hf_) | exact (Gu2 hf_) | exact (Ku1 hf_) | exact ok1.i | (exact LI.z (fun h => absurd h (by decide))) | (exact absurd hf_ (by omega)) | omega) | (unfold FPZ; (try simp only [Ks1, Fs1]); omega) | (unfold FQZ; (try simp only [Ks1, Fs1]); omega) | omega | (have zz_ := fz_z (by assumption); omega) | (split <;> omega) | done)), ?_⟩
                refine ⟨(by (try simp only [pre_X14_node_t, reduceIte, and_true, true_and, and_false, false_and, and_self, Nat.reduceEqDiff, fz_sF17, rF_sF, rA_sF, rR_sF, tr_sF, rNMp_sF, PNp_sF, GS_F17, OP_F17, NR_F17, LI_F17, RG_l17, RG_r17, TPRp_sF17, WNp_sF17, VMp_sF17, KYp_sF17, PPp_sF17, WFp_sF17, CCp_sF17, rk_n0 hp_2, Ks1, Fs1]); (all_goals (repeat' (first | with_reducible intro _ | with_reducible apply And.intro | with_reducible refine Exists.intro g ?_ | with_reducible refine Im.and ?_ ?_))); all_goals (first | assumption | trivial | ((with_reducible refine Im.i fun hf_ => ?_); first | exact (A1 hf_) | exact (Gu2 hf_) | exact (Ku1 hf_) | exact ok1.i | (exact LI.z (fun h => absurd h (by decide))) | (exact absurd hf_ (by omega)) | omega) | (unfold FPZ; (try simp only [reduceIte, and_true, true_and, and_false, false_and, and_self, Nat.reduceEqDiff, fz_sF17, rF_sF, rA_sF, rR_sF, tr_sF, rNMp_sF, PNp_sF, GS_F17, OP_F17, NR_F17, LI_F17, RG_l17, RG_r17, TPRp_sF17, WNp_sF17, VMp_sF17, KYp_sF17, PPp_sF17, WFp_sF17, CCp_sF17, rk_n0 hp_2, Ks1, Fs1]); omega) | (unfold FQZ; (try simp only [reduceIte, and_true, true_and, and_false, false_and, and_self, Nat.reduceEqDiff, fz_sF17, rF_sF, rA_sF, rR_sF, tr_sF, rNMp_sF, PNp_sF, GS_F17, OP_F17, NR_F17, LI_F17, RG_l17, RG_r17, TPRp_sF17, WNp_sF17, VMp_sF17, KYp_sF17, PPp_sF17, WFp_sF17, CCp_sF17, rk_n0 hp_2, Ks1, Fs1]); omega) | omega | (have zz_ := fz_z (by assumption); omega) | (split <;> omega) | done)), ?_⟩
                intro v178 s178 hv178 Ws178 e178_0 e178_1 e178_2 e178_3 e178_4 e178_5 e178_6 e178_7 e178_8 e178_9 e178_10 e178_11 e178_12 e178_13 e178_14 e178_15 e178_16 e178_17 e178_18 e178_19 e178_20 e178_21 e178_22 e178_23 e178_24 e178_25 e178_26 e178_27 e178_28 e178_29 e178_30 q178
                unfold rng at hv178
                unfold post_X14_node_t at q178
                obtain ⟨q178_1, q178_2, q178_3, q178_4, q178_5, q178_6, q178_7, q178_8, q178_9, q178_10⟩ := q178
                (try simp only [reduceIte, and_true, true_and, and_false, false_and, and_self, Nat.reduceEqDiff, fz_sF17, rF_sF, rA_sF, rR_sF, tr_sF, rNMp_sF, PNp_sF, GS_F17, OP_F17, NR_F17, LI_F17, RG_l17, RG_r17, TPRp_sF17, WNp_sF17, VMp_sF17, KYp_sF17, PPp_sF17, WFp_sF17, CCp_sF17, rk_n0 hp_2, Ks1, Fs1, FPZ, FQZ] at q178_1 q178_2 q178_3 q178_4 q178_5 q178_6 q178_7 q178_8 q178_9 q178_10 e178_0 e178_1 e178_2 e178_3 e178_4 e178_5 e178_6 e178_7 e178_8 e178_9 e178_10 e178_11 e178_12 e178_13 e178_14 e178_15 e178_16 e178_17 e178_18 e178_19 e178_20 e178_21 e178_22 e178_23 e178_24 e178_25 e178_26 e178_27 e178_28 e178_29 e178_30)
                have Ks178 : rR s178 7 = rR σ 7 := by first | assumption | ((try simp only [rR_sF, rR_sA, rR_sT, rR_sL] at e178_0 e178_1 e178_2 e178_3 e178_4 e178_5 e178_6 e178_7 e178_8 e178_9 e178_10 e178_11 e178_12 e178_13 e178_14 e178_15 e178_16 e178_17 e178_18 e178_19 e178_20 e178_21 e178_22 e178_23 e178_24 e178_25 e178_26 e178_27 e178_28 e178_29 e178_30); omega)
                have Fs178 : rR s178 15 = rR σ 15 := by first | assumption | ((try simp only [rR_sF, rR_sA, rR_sT, rR_sL] at e178_0 e178_1 e178_2 e178_3 e178_4 e178_5 e178_6 e178_7 e178_8 e178_9 e178_10 e178_11 e178_12 e178_13 e178_14 e178_15 e178_16 e178_17 e178_18 e178_19 e178_20 e178_21 e178_22 e178_23 e178_24 e178_25 e178_26 e178_27 e178_28 e178_29 e178_30); omega)
                have zr178 := fz_rng s178
                have zc178 : fz s178 = 0 → fz s1 = 0 := fun hf => by omega
                have A178 : Im (fz s178 = 0) (RG (RT σ) s178 (rR σ 7) 0) := fun hf => RG.trk hp_2 (A1 (zc178 hf)) q178_3 (Or.inr (Or.inl rfl))
                obtain ⟨g178, X178⟩ := EN_56 (P := fz s178 = 0) 0 0 hp_2 (fun hf => Gu2 (zc178 hf)) (fun hf => q178_3) q178_1 q178_2 q178_4 q178_5 q178_6 q178_9 (fun hf => by (try simp only [rF_sT, rF_sA]); (repeat' (with_reducible apply And.intro)) <;> first | trivial | omega)
                have Ku47 : Im (fz s178 = 0) (GK g g178 (rF σ (rR σ 7) 7) (rF s178 (rR σ 7) 7) 0) := fun hf => GK.gs (Ku1 (zc178 hf)) (X178 hf).2.1
                have Gu48 : Im (fz s178 = 0) _ := fun hf => (X178 hf).1
                have O178 : Im (fz s178 = 0) _ := fun hf => (X178 hf).2.2.1
                have L178_1 : Im (fz s178 = 0) (LI s178 (rR σ 7) g178 v178 1 56 0) := fun hf => LI.z (fun h => absurd h (by decide))
                have rNMp_178 := e178_0 rNMp_1; clear e178_0
                obtain ⟨gu49, Xu50⟩ := EC_56 (P := fz s178 = 0) 0 Gu48 O178 (fun hf => by omega)
                have O178u51 : Im (fz s178 = 0) _ := fun hf => (Xu50 hf).2.1
                have Ku52 : Im (fz s178 = 0) (GK g gu49 (rF σ (rR σ 7) 7) (rF s178 (rR σ 7) 7) 0) := fun hf => GK.kc (Ku47 hf) (Xu50 hf).2.2 (by omega)
                have Gu53 : Im (fz s178 = 0) _ := fun hf => (Xu50 hf).1
                have Vu54 : Im (fz s178 = 0) _ := fun hf => NR_re19 (O178u51 hf) (Xu50 hf).2.2 (O178 hf) (by rw [so_19]; omega)
                exact (by (try simp only [post_X14_readValue, Ks178, Fs178]); (all_goals (repeat' (first | with_reducible intro _ | with_reducible apply And.intro | with_reducible refine Exists.intro gu49 ?_ | with_reducible refine Im.and ?_ ?_))); all_goals (first | assumption | trivial | ((with_reducible refine Im.i fun hf_ => ?_); first | exact (A178 hf_) | exact (Gu53 hf_) | exact (Ku52 hf_) | exact (Vu54 hf_).cst | exact ok1.i | (exact LI.z (fun h => absurd h (by decide))) | (exact absurd hf_ (by omega)) | omega) | (unfold FPZ; (try simp only [Ks178, Fs178]); omega) | (unfold FQZ; (try simp only [Ks178, Fs178]); omega) | omega | (have zz_ := fz_z (by assumption); omega) | (split <;> omega) | done))
          · refine ⟨(by (try simp only [pre_X14_isFileWord_f, Ks1, Fs1]); (all_goals (repeat' (first | with_reducible intro _ | with_reducible apply And.intro | with_reducible refine Exists.intro g ?_ | with_reducible refine Im.and ?_ ?_))); all_goals (first | assumption | trivial | ((with_reducible refine Im.i fun hf_ => ?_); first | exact (A1 hf_) | exact (Gu2 hf_) | exact (Ku1 hf_) | exact ok1.i | (exact LI.z (fun h => absurd h (by decide))) | (exact absurd hf_ (by omega)) | omega) | (unfold FPZ; (try simp only [Ks1, Fs1]); omega) | (unfold FQZ; (try simp only [Ks1, Fs1]); omega) | omega | (have zz_ := fz_z (by assumption); omega) | (split <;> omega) | done)), ?_⟩
            intro v107 hv107 q107
            unfold rng at hv107
            unfold post_X14_isFileWord_f at q107
            obtain ⟨q107_1, q107_2, q107_3⟩ := q107
            (try simp only [Ks1, Fs1, FPZ, FQZ] at q107_1 q107_2 q107_3)
            refine ⟨fun c110 => ?_, fun c110 => ?_⟩
            · refine ⟨(by (try simp only [pre_X14_node_t, Ks1, Fs1]); (all_goals (repeat' (first | with_reducible intro _ | with_reducible apply And.intro | with_reducible refine Exists.intro g ?_ | with_reducible refine Im.and ?_ ?_))); all_goals (first | assumption | trivial | ((with_reducible refine Im.i fun hf_ => ?_); first | exact (A1 hf_) | exact (Gu2 hf_) | exact (Ku1 hf_) | exact ok1.i | (exact LI.z (fun h => absurd h (by decide))) | (exact absurd hf_ (by omega)) | omega) | (unfold FPZ; (try simp only [Ks1, Fs1]); omega) | (unfold FQZ; (try simp only [Ks1, Fs1]); omega) | omega | (have zz_ := fz_z (by assumption); omega) | (split <;> omega) | done)), ?_⟩
              intro v123 s123 hv123 Ws123 e123_0 e123_1 e123_2 e123_3 e123_4 e123_5 e123_6 e123_7 e123_8 e123_9 e123_10 e123_11 e123_12 e123_13 e123_14 e123_15 e123_16 e123_17 e123_18 e123_19 e123_20 e123_21 e123_22 e123_23 e123_24 e123_25 e123_26 e123_27 e123_28 e123_29 e123_30 q123
              unfold rng at hv123
              unfold post_X14_node_t at q123
              obtain ⟨q123_1, q123_2, q123_3, q123_4, q123_5, q123_6, q123_7, q123_8, q123_9, q123_10⟩ := q123
              (try simp only [Ks1, Fs1, FPZ, FQZ] at q123_1 q123_2 q123_3 q123_4 q123_5 q123_6 q123_7 q123_8 q123_9 q123_10 e123_0 e123_1 e123_2 e123_3 e123_4 e123_5 e123_6 e123_7 e123_8 e123_9 e123_10 e123_11 e123_12 e123_13 e123_14 e123_15 e123_16 e123_17 e123_18 e123_19 e123_20 e123_21 e123_22 e123_23 e123_24 e123_25 e123_26 e123_27 e123_28 e123_29 e123_30)
              have Ks123 : rR s123 7 = rR σ 7 := by first | assumption | ((try simp only [rR_sF, rR_sA, rR_sT, rR_sL] at e123_0 e123_1 e123_2 e123_3 e123_4 e123_5 e123_6 e123_7 e123_8 e123_9 e123_10 e123_11 e123_12 e123_13 e123_14 e123_15 e123_16 e123_17 e123_18 e123_19 e123_20 e123_21 e123_22 e123_23 e123_24 e123_25 e123_26 e123_27 e123_28 e123_29 e123_30); omega)
              have Fs123 : rR s123 15 = rR σ 15 := by first | assumption | ((try simp only [rR_sF, rR_sA, rR_sT, rR_sL] at e123_0 e123_1 e123_2 e123_3 e123_4 e123_5 e123_6 e123_7 e123_8 e123_9 e123_10 e123_11 e123_12 e123_13 e123_14 e123_15 e123_16 e123_17 e123_18 e123_19 e123_20 e123_21 e123_22 e123_23 e123_24 e123_25 e123_26 e123_27 e123_28 e123_29 e123_30); omega)
              have zr123 := fz_rng s123
              have zc123 : fz s123 = 0 → fz s1 = 0 := fun hf => by omega
              have A123 : Im (fz s123 = 0) (RG (RT σ) s123 (rR σ 7) 0) := fun hf => RG.trk hp_2 (A1 (zc123 hf)) q123_3 (Or.inr (Or.inl rfl))
              obtain ⟨g123, X123⟩ := EN_32 (P := fz s123 = 0) 0 0 hp_2 (fun hf => Gu2 (zc123 hf)) (fun hf => q123_3) q123_1 q123_2 q123_4 q123_5 q123_6 q123_9 (fun hf => by (try simp only [rF_sT, rF_sA]); (repeat' (with_reducible apply And.intro)) <;> first | trivial | omega)
              have Ku55 : Im (fz s123 = 0) (GK g g123 (rF σ (rR σ 7) 7) (rF s123 (rR σ 7) 7) 0) := fun hf => GK.gs (Ku1 (zc123 hf)) (X123 hf).2.1
              have Gu56 : Im (fz s123 = 0) _ := fun hf => (X123 hf).1
              have O123 : Im (fz s123 = 0) _ := fun hf => (X123 hf).2.2.1
              have rNMp_123 := e123_0 rNMp_1; clear e123_0
              obtain ⟨gu57, Xu58⟩ := EC_32 (P := fz s123 = 0) 0 Gu56 O123 (fun hf => by omega)
              have O123u59 : Im (fz s123 = 0) _ := fun hf => (Xu58 hf).2.1
              have Ku60 : Im (fz s123 = 0) (GK g gu57 (rF σ (rR σ 7) 7) (rF s123 (rR σ 7) 7) 0) := fun hf => GK.kc (Ku55 hf) (Xu58 hf).2.2 (by omega)
              have Gu61 : Im (fz s123 = 0) _ := fun hf => (Xu58 hf).1
              have Vu62 : Im (fz s123 = 0) _ := fun hf => NR_re19 (O123u59 hf) (Xu58 hf).2.2 (O123 hf) (by rw [so_19]; omega)
              refine ⟨(by (try simp only [Ks123, Fs123]); (all_goals (repeat' (first | with_reducible intro _ | with_reducible apply And.intro | with_reducible refine Exists.intro gu57 ?_ | with_reducible refine Im.and ?_ ?_))); all_goals (first | assumption | trivial | ((with_reducible refine Im.i fun hf_ => ?_); first | exact (A123 hf_) | exact (Gu61 hf_) | exact (Ku60 hf_) | exact (Vu62 hf_).cst | exact ok1.i | (exact LI.z (fun h => absurd h (by decide))) | (exact absurd hf_ (by omega)) | omega) | (unfold FPZ; (try simp only [Ks123, Fs123]); omega) | (unfold FQZ; (try simp only [Ks123, Fs123]); omega) | omega | (have zz_ := fz_z (by assumption); omega) | (split <;> omega) | done)), ?_⟩
              intro hr_; unfold rng at hr_
              refine ⟨(by (try simp only [pre_X14_wordEnd_t, Ks123, Fs123]); (all_goals (repeat' (first | with_reducible intro _ | with_reducible apply And.intro | with_reducible refine Exists.intro gu57 ?_ | with_reducible refine Im.and ?_ ?_))); all_goals (first | assumption | trivial | ((with_reducible refine Im.i fun hf_ => ?_); first | exact (A123 hf_) | exact (Gu61 hf_) | exact (Ku60 hf_) | exact (Vu62 hf_).cst | exact ok1.i | (exact LI.z (fun h => absurd h (by decide))) | (exact absurd hf_ (by omega)) | omega) | (unfold FPZ; (try simp only [Ks123, Fs123]); omega) | (unfold FQZ; (try simp only [Ks123, Fs123]); omega) | omega | (have zz_ := fz_z (by assumption); omega) | (split <;> omega) | done)), ?_⟩
              intro v140 hv140 q140
              unfold rng at hv140
              unfold post_X14_wordEnd_t at q140
              obtain ⟨q140_1, q140_2, q140_3, q140_4⟩ := q140
              (try simp only [Ks123, Fs123, FPZ, FQZ] at q140_1 q140_2 q140_3 q140_4)
              have w140 : rF s1 0 17 < v140 := by first | (have a_ := q86_3 ⟨by omega, by decide⟩; (try simp only [Fs1] at a_); exact q140_4 ⟨by omega, by rw [(by assumption : FLk s1 s123) _ _ hp_6.1]; exact a_.2⟩) | (have a_ := q96_3 ⟨by omega, by decide⟩; (try simp only [Fs1] at a_); exact q140_4 ⟨by omega, by rw [(by assumption : FLk s1 s123) _ _ hp_6.1]; exact a_.2⟩) | (have a_ := q107_3 ⟨by omega, by decide⟩; (try simp only [Fs1] at a_); exact q140_4 ⟨by omega, by rw [(by assumption : FLk s1 s123) _ _ hp_6.1]; exact a_.2⟩)
              exact (by (try simp only [post_X14_readValue, reduceIte, and_true, true_and, and_false, false_and, and_self, Nat.reduceEqDiff, fz_sF17, rF_sF, rA_sF, rR_sF, tr_sF, rNMp_sF, PNp_sF, GS_F17, OP_F17, NR_F17, LI_F17, RG_l17, RG_r17, TPRp_sF17, WNp_sF17, VMp_sF17, KYp_sF17, PPp_sF17, WFp_sF17, CCp_sF17, rk_n0 hp_2, Ks123, Fs123]); (all_goals (repeat' (first | with_reducible intro _ | with_reducible apply And.intro | with_reducible refine Exists.intro gu57 ?_ | with_reducible refine Im.and ?_ ?_))); all_goals (first | assumption | trivial | ((with_reducible refine Im.i fun hf_ => ?_); first | exact (A123 hf_) | exact (Gu61 hf_) | exact (Ku60 hf_) | exact (Vu62 hf_).cst | exact ok1.i | (exact LI.z (fun h => absurd h (by decide))) | (exact absurd hf_ (by omega)) | omega) | (unfold FPZ; (try simp only [reduceIte, and_true, true_and, and_false, false_and, and_self, Nat.reduceEqDiff, fz_sF17, rF_sF, rA_sF, rR_sF, tr_sF, rNMp_sF, PNp_sF, GS_F17, OP_F17, NR_F17, LI_F17, RG_l17, RG_r17, TPRp_sF17, WNp_sF17, VMp_sF17, KYp_sF17, PPp_sF17, WFp_sF17, CCp_sF17, rk_n0 hp_2, Ks123, Fs123]); omega) | (unfold FQZ; (try simp only [reduceIte, and_true, true_and, and_false, false_and, and_self, Nat.reduceEqDiff, fz_sF17, rF_sF, rA_sF, rR_sF, tr_sF, rNMp_sF, PNp_sF, GS_F17, OP_F17, NR_F17, LI_F17, RG_l17, RG_r17, TPRp_sF17, WNp_sF17, VMp_sF17, KYp_sF17, PPp_sF17, WFp_sF17, CCp_sF17, rk_n0 hp_2, Ks123, Fs123]); omega) | omega | (have zz_ := fz_z (by assumption); omega) | (split <;> omega) | done))
            · refine ⟨(by (try simp only [pre_X14_node_t, Ks1, Fs1]); (all_goals (repeat' (first | with_reducible intro _ | with_reducible apply And.intro | with_reducible refine Exists.intro g ?_ | with_reducible refine Im.and ?_ ?_))); all_goals (first | assumption | trivial | ((with_reducible refine Im.i fun hf_ => ?_); first | exact (A1 hf_) | exact (Gu2 hf_) | exact (Ku1 hf_) | exact ok1.i | (exact LI.z (fun h => absurd h (by decide))) | (exact absurd hf_ (by omega)) | omega) | (unfold FPZ; (try simp only [Ks1, Fs1]); omega) | (unfold FQZ; (try simp only [Ks1, Fs1]); omega) | omega | (have zz_ := fz_z (by assumption); omega) | (split <;> omega) | done)), ?_⟩
              intro v123 s123 hv123 Ws123 e123_0 e123_1 e123_2 e123_3 e123_4 e123_5 e123_6 e123_7 e123_8 e123_9 e123_10 e123_11 e123_12 e123_13 e123_14 e123_15 e123_16 e123_17 e123_18 e123_19 e123_20 e123_21 e123_22 e123_23 e123_24 e123_25 e123_26 e123_27 e123_28 e123_29 e123_30 q123
              unfold rng at hv123
              unfold post_X14_node_t at q123
              obtain ⟨q123_1, q123_2, q123_3, q123_4, q123_5, q123_6, q123_7, q123_8, q123_9, q123_10⟩ := q123
              (try simp only [Ks1, Fs1, FPZ, FQZ] at q123_1 q123_2 q123_3 q123_4 q123_5 q123_6 q123_7 q123_8 q123_9 q123_10 e123_0 e123_1 e123_2 e123_3 e123_4 e123_5 e123_6 e123_7 e123_8 e123_9 e123_10 e123_11 e123_12 e123_13 e123_14 e123_15 e123_16 e123_17 e123_18 e123_19 e123_20 e123_21 e123_22 e123_23 e123_24 e123_25 e123_26 e123_27 e123_28 e123_29 e123_30)
              have Ks123 : rR s123 7 = rR σ 7 := by first | assumption | ((try simp only [rR_sF, rR_sA, rR_sT, rR_sL] at e123_0 e123_1 e123_2 e123_3 e123_4 e123_5 e123_6 e123_7 e123_8 e123_9 e123_10 e123_11 e123_12 e123_13 e123_14 e123_15 e123_16 e123_17 e123_18 e123_19 e123_20 e123_21 e123_22 e123_23 e123_24 e123_25 e123_26 e123_27 e123_28 e123_29 e123_30); omega)
              have Fs123 : rR s123 15 = rR σ 15 := by first | assumption | ((try simp only [rR_sF, rR_sA, rR_sT, rR_sL] at e123_0 e123_1 e123_2 e123_3 e123_4 e123_5 e123_6 e123_7 e123_8 e123_9 e123_10 e123_11 e123_12 e123_13 e123_14 e123_15 e123_16 e123_17 e123_18 e123_19 e123_20 e123_21 e123_22 e123_23 e123_24 e123_25 e123_26 e123_27 e123_28 e123_29 e123_30); omega)
              have zr123 := fz_rng s123
              have zc123 : fz s123 = 0 → fz s1 = 0 := fun hf => by omega
              have A123 : Im (fz s123 = 0) (RG (RT σ) s123 (rR σ 7) 0) := fun hf => RG.trk hp_2 (A1 (zc123 hf)) q123_3 (Or.inr (Or.inl rfl))
              obtain ⟨g123, X123⟩ := EN_31 (P := fz s123 = 0) 0 0 hp_2 (fun hf => Gu2 (zc123 hf)) (fun hf => q123_3) q123_1 q123_2 q123_4 q123_5 q123_6 q123_9 (fun hf => by (try simp only [rF_sT, rF_sA]); (repeat' (with_reducible apply And.intro)) <;> first | trivial | omega)
              have Ku63 : Im (fz s123 = 0) (GK g g123 (rF σ (rR σ 7) 7) (rF s123 (rR σ 7) 7) 0) := fun hf => GK.gs (Ku1 (zc123 hf)) (X123 hf).2.1
              have Gu64 : Im (fz s123 = 0) _ := fun hf => (X123 hf).1
              have O123 : Im (fz s123 = 0) _ := fun hf => (X123 hf).2.2.1
              have rNMp_123 := e123_0 rNMp_1; clear e123_0
              obtain ⟨gu65, Xu66⟩ := EC_31 (P := fz s123 = 0) 0 Gu64 O123 (fun hf => by omega)
              have O123u67 : Im (fz s123 = 0) _ := fun hf => (Xu66 hf).2.1
              have Ku68 : Im (fz s123 = 0) (GK g gu65 (rF σ (rR σ 7) 7) (rF s123 (rR σ 7) 7) 0) := fun hf => GK.kc (Ku63 hf) (Xu66 hf).2.2 (by omega)
              have Gu69 : Im (fz s123 = 0) _ := fun hf => (Xu66 hf).1
              have Vu70 : Im (fz s123 = 0) _ := fun hf => NR_re19 (O123u67 hf) (Xu66 hf).2.2 (O123 hf) (by rw [so_19]; omega)
              refine ⟨(by (try simp only [Ks123, Fs123]); (all_goals (repeat' (first | with_reducible intro _ | with_reducible apply And.intro | with_reducible refine Exists.intro gu65 ?_ | with_reducible refine Im.and ?_ ?_))); all_goals (first | assumption | trivial | ((with_reducible refine Im.i fun hf_ => ?_); first | exact (A123 hf_) | exact (Gu69 hf_) | exact (Ku68 hf_) | exact (Vu70 hf_).cst | exact ok1.i | (exact LI.z (fun h => absurd h (by decide))) | (exact absurd hf_ (by omega)) | omega) | (unfold FPZ; (try simp only [Ks123, Fs123]); omega) | (unfold FQZ; (try simp only [Ks123, Fs123]); omega) | omega | (have zz_ := fz_z (by assumption); omega) | (split <;> omega) | done)), ?_⟩
              intro hr_; unfold rng at hr_
              refine ⟨(by (try simp only [pre_X14_wordEnd_t, Ks123, Fs123]); (all_goals (repeat' (first | with_reducible intro _ | with_reducible apply And.intro | with_reducible refine Exists.intro gu65 ?_ | with_reducible refine Im.and ?_ ?_))); all_goals (first | assumption | trivial | ((with_reducible refine Im.i fun hf_ => ?_); first | exact (A123 hf_) | exact (Gu69 hf_) | exact (Ku68 hf_) | exact (Vu70 hf_).cst | exact ok1.i | (exact LI.z (fun h => absurd h (by decide))) | (exact absurd hf_ (by omega)) | omega) | (unfold FPZ; (try simp only [Ks123, Fs123]); omega) | (unfold FQZ; (try simp only [Ks123, Fs123]); omega) | omega | (have zz_ := fz_z (by assumption); omega) | (split <;> omega) | done)), ?_⟩
              intro v140 hv140 q140
              unfold rng at hv140
              unfold post_X14_wordEnd_t at q140
              obtain ⟨q140_1, q140_2, q140_3, q140_4⟩ := q140
              (try simp only [Ks123, Fs123, FPZ, FQZ] at q140_1 q140_2 q140_3 q140_4)
              have w140 : rF s1 0 17 < v140 := by first | (have a_ := q86_3 ⟨by omega, by decide⟩; (try simp only [Fs1] at a_); exact q140_4 ⟨by omega, by rw [(by assumption : FLk s1 s123) _ _ hp_6.1]; exact a_.2⟩) | (have a_ := q96_3 ⟨by omega, by decide⟩; (try simp only [Fs1] at a_); exact q140_4 ⟨by omega, by rw [(by assumption : FLk s1 s123) _ _ hp_6.1]; exact a_.2⟩) | (have a_ := q107_3 ⟨by omega, by decide⟩; (try simp only [Fs1] at a_); exact q140_4 ⟨by omega, by rw [(by assumption : FLk s1 s123) _ _ hp_6.1]; exact a_.2⟩)
              exact (by (try simp only [post_X14_readValue, reduceIte, and_true, true_and, and_false, false_and, and_self, Nat.reduceEqDiff, fz_sF17, rF_sF, rA_sF, rR_sF, tr_sF, rNMp_sF, PNp_sF, GS_F17, OP_F17, NR_F17, LI_F17, RG_l17, RG_r17, TPRp_sF17, WNp_sF17, VMp_sF17, KYp_sF17, PPp_sF17, WFp_sF17, CCp_sF17, rk_n0 hp_2, Ks123, Fs123]); (all_goals (repeat' (first | with_reducible intro _ | with_reducible apply And.intro | with_reducible refine Exists.intro gu65 ?_ | with_reducible refine Im.and ?_ ?_))); all_goals (first | assumption | trivial | ((with_reducible refine Im.i fun hf_ => ?_); first | exact (A123 hf_) | exact (Gu69 hf_) | exact (Ku68 hf_) | exact (Vu70 hf_).cst | exact ok1.i | (exact LI.z (fun h => absurd h (by decide))) | (exact absurd hf_ (by omega)) | omega) | (unfold FPZ; (try simp only [reduceIte, and_true, true_and, and_false, false_and, and_self, Nat.reduceEqDiff, fz_sF17, rF_sF, rA_sF, rR_sF, tr_sF, rNMp_sF, PNp_sF, GS_F17, OP_F17, NR_F17, LI_F17, RG_l17, RG_r17, TPRp_sF17, WNp_sF17, VMp_sF17, KYp_sF17, PPp_sF17, WFp_sF17, CCp_sF17, rk_n0 hp_2, Ks123, Fs123]); omega) | (unfold FQZ; (try simp only [reduceIte, and_true, true_and, and_false, false_and, and_self, Nat.reduceEqDiff, fz_sF17, rF_sF, rA_sF, rR_sF, tr_sF, rNMp_sF, PNp_sF, GS_F17, OP_F17, NR_F17, LI_F17, RG_l17, RG_r17, TPRp_sF17, WNp_sF17, VMp_sF17, KYp_sF17, PPp_sF17, WFp_sF17, CCp_sF17, rk_n0 hp_2, Ks123, Fs123]); omega) | omega | (have zz_ := fz_z (by assumption); omega) | (split <;> omega) | done))
      · refine ⟨g, ?_⟩
        refine ⟨(by (try simp only [pre_X14_readFileSub, Ks1, Fs1]); (all_goals (repeat' (first | with_reducible intro _ | with_reducible apply And.intro | with_reducible refine Exists.intro g ?_ | with_reducible refine Im.and ?_ ?_))); all_goals (first | assumption | trivial | ((with_reducible refine Im.i fun hf_ => ?_); first | exact (A1 hf_) | exact (Gu2 hf_) | exact (Ku1 hf_) | exact ok1.i | (exact LI.z (fun h => absurd h (by decide))) | (exact absurd hf_ (by omega)) | omega) | (unfold FPZ; (try simp only [Ks1, Fs1]); omega) | (unfold FQZ; (try simp only [Ks1, Fs1]); omega) | omega | (have zz_ := fz_z (by assumption); omega) | (split <;> omega) | done)), ?_⟩
        intro v78 s78 hv78 Ws78 e78_0 e78_1 e78_2 e78_3 e78_4 e78_5 e78_6 e78_7 e78_8 q78
        unfold rng at hv78
        unfold post_X14_readFileSub at q78
        obtain ⟨q78_1, q78_2, q78_3, q78_4, q78_5, q78_6, q78_7⟩ := q78
        (try simp only [Ks1, Fs1, FPZ, FQZ] at q78_1 q78_2 q78_3 q78_4 q78_5 q78_6 q78_7 e78_0 e78_1 e78_2 e78_3 e78_4 e78_5 e78_6 e78_7 e78_8)
        have Ks78 : rR s78 7 = rR σ 7 := by first | assumption | ((try simp only [rR_sF, rR_sA, rR_sT, rR_sL] at e78_0 e78_1 e78_2 e78_3 e78_4 e78_5 e78_6 e78_7 e78_8); omega)
        have Fs78 : rR s78 15 = rR σ 15 := by first | assumption | ((try simp only [rR_sF, rR_sA, rR_sT, rR_sL] at e78_0 e78_1 e78_2 e78_3 e78_4 e78_5 e78_6 e78_7 e78_8); omega)
        have zr78 := fz_rng s78
        have zc78 : fz s78 = 0 → fz s1 = 0 := fun hf => by omega
        have A78 : Im (fz s78 = 0) (RG (RT σ) s78 (rR σ 7) 0) := fun hf => RG.tt (q78_6 (by omega)) (A1 (zc78 hf))
        obtain ⟨g78, X78⟩ := q78_7
        have Ku71 : Im (fz s78 = 0) (GK g g78 (rF σ (rR σ 7) 7) (rF s78 (rR σ 7) 7) 0) := fun hf => GK.trans (Ku1 (zc78 hf)) ((X78 hf).2.1) (Or.inr (Or.inl rfl))
        have Gu72 : Im (fz s78 = 0) (GS s78 (rR σ 7) g78) := fun hf => (X78 hf).1
        have r78 : Im (fz s78 = 0) _ := fun hf => (X78 hf).2.2.1
        exact (by (try simp only [post_X14_readValue, Ks78, Fs78]); (all_goals (repeat' (first | with_reducible intro _ | with_reducible apply And.intro | with_reducible refine Exists.intro g78 ?_ | with_reducible refine Im.and ?_ ?_))); all_goals (first | assumption | trivial | ((with_reducible refine Im.i fun hf_ => ?_); first | exact (A78 hf_) | exact (Gu72 hf_) | exact (Ku71 hf_) | exact (r78 hf_).cst | exact ok1.i | (exact LI.z (fun h => absurd h (by decide))) | (exact absurd hf_ (by omega)) | omega) | (unfold FPZ; (try simp only [Ks78, Fs78]); omega) | (unfold FQZ; (try simp only [Ks78, Fs78]); omega) | omega | (have zz_ := fz_z (by assumption); omega) | (split <;> omega) | done))
    · refine ⟨(by (try simp only [pre_X14_fileString_f, Ks1, Fs1]); (all_goals (repeat' (first | with_reducible intro _ | with_reducible apply And.intro | with_reducible refine Exists.intro g ?_ | with_reducible refine Im.and ?_ ?_))); all_goals (first | assumption | trivial | ((with_reducible refine Im.i fun hf_ => ?_); first | exact (A1 hf_) | exact (Gu2 hf_) | exact (Ku1 hf_) | exact ok1.i | (exact LI.z (fun h => absurd h (by decide))) | (exact absurd hf_ (by omega)) | omega) | (unfold FPZ; (try simp only [Ks1, Fs1]); omega) | (unfold FQZ; (try simp only [Ks1, Fs1]); omega) | omega | (have zz_ := fz_z (by assumption); omega) | (split <;> omega) | done)), ?_⟩
      intro s32 Ws32 e32_0 e32_1 e32_2 e32_3 e32_4 e32_5 e32_6 e32_7 e32_8 e32_9 e32_10 e32_11 e32_12 e32_13 e32_14 e32_15 e32_16 e32_17 e32_18 e32_19 e32_20 e32_21 e32_22 e32_23 e32_24 e32_25 e32_26 R32 q32
      unfold post_X14_fileString_f at q32
      obtain ⟨q32_1, q32_2, q32_3, q32_4⟩ := q32
      (try simp only [Ks1, Fs1, FPZ, FQZ] at q32_1 q32_2 q32_3 q32_4 e32_0 e32_1 e32_2 e32_3 e32_4 e32_5 e32_6 e32_7 e32_8 e32_9 e32_10 e32_11 e32_12 e32_13 e32_14 e32_15 e32_16 e32_17 e32_18 e32_19 e32_20 e32_21 e32_22 e32_23 e32_24 e32_25 e32_26 R32)
      have Ks32 : rR s32 7 = rR σ 7 := by first | assumption | ((try simp only [rR_sF, rR_sA, rR_sT, rR_sL] at e32_0 e32_1 e32_2 e32_3 e32_4 e32_5 e32_6 e32_7 e32_8 e32_9 e32_10 e32_11 e32_12 e32_13 e32_14 e32_15 e32_16 e32_17 e32_18 e32_19 e32_20 e32_21 e32_22 e32_23 e32_24 e32_25 e32_26 R32); omega)
      have Fs32 : rR s32 15 = rR σ 15 := by first | assumption | ((try simp only [rR_sF, rR_sA, rR_sT, rR_sL] at e32_0 e32_1 e32_2 e32_3 e32_4 e32_5 e32_6 e32_7 e32_8 e32_9 e32_10 e32_11 e32_12 e32_13 e32_14 e32_15 e32_16 e32_17 e32_18 e32_19 e32_20 e32_21 e32_22 e32_23 e32_24 e32_25 e32_26 R32); omega)
      have zr32 := fz_rng s32
      have zc32 : fz s32 = 0 → fz s1 = 0 := fun hf => by omega
      have A32 : Im (fz s32 = 0) (RG (RT σ) s32 (rR σ 7) 0) := fun hf => RG.trk hp_2 (A1 (zc32 hf)) R32 (Or.inr (Or.inl rfl))
      have Ku73 : Im (fz s32 = 0) (GK g g (rF σ (rR σ 7) 7) (rF s32 (rR σ 7) 7) 0) := fun hf => GK.trans (Ku1 (zc32 hf)) (GK.up (N := rF s1 (rR σ 7) 7) (N' := rF s32 (rR σ 7) 7) (c := 0) (by first | assumption | omega | (simp only [rF_sT, rF_sA]; omega))) (Or.inr (Or.inl rfl))
      have Gu74 : Im (fz s32 = 0) (GS s32 (rR σ 7) g) := fun hf => GS.mv hp_2 (Gu2 (zc32 hf)) R32 (by first | assumption | omega | (simp only [rF_sT, rF_sA]; omega)) (by first | (exact Int.le_of_eq (Eq.symm (by assumption))) | omega | (simp only [rF_sT, rF_sA]; omega))
      have rNMp_32 := e32_0 rNMp_1; clear e32_0
      have PNp_32 := e32_1 PNp_1; clear e32_1
      intro hr_; unfold rng at hr_
      refine ⟨fun c39 => ?_, fun c39 => ?_⟩
      · have z39 := fz_n c39
        exact (by (try simp only [post_X14_readValue, Ks32, Fs32]); (all_goals (repeat' (first | with_reducible intro _ | with_reducible apply And.intro | with_reducible refine Exists.intro g ?_ | with_reducible refine Im.and ?_ ?_))); all_goals (first | assumption | trivial | ((with_reducible refine Im.i fun hf_ => ?_); first | exact (A32 hf_) | exact (Gu74 hf_) | exact (Ku73 hf_) | exact ok1.i | (exact LI.z (fun h => absurd h (by decide))) | (exact absurd hf_ (by omega)) | omega) | (unfold FPZ; (try simp only [Ks32, Fs32]); omega) | (unfold FQZ; (try simp only [Ks32, Fs32]); omega) | omega | (have zz_ := fz_z (by assumption); omega) | (split <;> omega) | done))
      · have z39 := fz_z c39
        refine ⟨(by (try simp only [Ks32, Fs32]); (all_goals (repeat' (first | with_reducible intro _ | with_reducible apply And.intro | with_reducible refine Exists.intro g ?_ | with_reducible refine Im.and ?_ ?_))); all_goals (first | assumption | trivial | ((with_reducible refine Im.i fun hf_ => ?_); first | exact (A32 hf_) | exact (Gu74 hf_) | exact (Ku73 hf_) | exact ok1.i | (exact LI.z (fun h => absurd h (by decide))) | (exact absurd hf_ (by omega)) | omega) | (unfold FPZ; (try simp only [Ks32, Fs32]); omega) | (unfold FQZ; (try simp only [Ks32, Fs32]); omega) | omega | (have zz_ := fz_z (by assumption); omega) | (split <;> omega) | done)), ?_⟩
        intro hr_; unfold rng at hr_
        intro hr_; unfold rng at hr_
        refine ⟨(by (try simp only [pre_X14_keepString_t, Ks32, Fs32]); (all_goals (repeat' (first | with_reducible intro _ | with_reducible apply And.intro | with_reducible refine Exists.intro g ?_ | with_reducible refine Im.and ?_ ?_))); all_goals (first | assumption | trivial | ((with_reducible refine Im.i fun hf_ => ?_); first | exact (A32 hf_) | exact (Gu74 hf_) | exact (Ku73 hf_) | exact ok1.i | (exact LI.z (fun h => absurd h (by decide))) | (exact absurd hf_ (by omega)) | omega) | (unfold FPZ; (try simp only [Ks32, Fs32]); omega) | (unfold FQZ; (try simp only [Ks32, Fs32]); omega) | omega | (have zz_ := fz_z (by assumption); omega) | (split <;> omega) | done)), ?_⟩
        intro v56 s56 hv56 Ws56 e56_0 e56_1 e56_2 e56_3 e56_4 e56_5 e56_6 e56_7 e56_8 e56_9 e56_10 e56_11 e56_12 e56_13 e56_14 e56_15 e56_16 e56_17 e56_18 e56_19 e56_20 e56_21 e56_22 e56_23 e56_24 e56_25 e56_26 e56_27 e56_28 q56
        unfold rng at hv56
        unfold post_X14_keepString_t at q56
        obtain ⟨q56_1, q56_2, q56_3, q56_4, q56_5, q56_6, q56_7, q56_8, q56_9, q56_10, q56_11, q56_12⟩ := q56
        (try simp only [Ks32, Fs32, FPZ, FQZ] at q56_1 q56_2 q56_3 q56_4 q56_5 q56_6 q56_7 q56_8 q56_9 q56_10 q56_11 q56_12 e56_0 e56_1 e56_2 e56_3 e56_4 e56_5 e56_6 e56_7 e56_8 e56_9 e56_10 e56_11 e56_12 e56_13 e56_14 e56_15 e56_16 e56_17 e56_18 e56_19 e56_20 e56_21 e56_22 e56_23 e56_24 e56_25 e56_26 e56_27 e56_28)
        have Ks56 : rR s56 7 = rR σ 7 := by first | assumption | ((try simp only [rR_sF, rR_sA, rR_sT, rR_sL] at e56_0 e56_1 e56_2 e56_3 e56_4 e56_5 e56_6 e56_7 e56_8 e56_9 e56_10 e56_11 e56_12 e56_13 e56_14 e56_15 e56_16 e56_17 e56_18 e56_19 e56_20 e56_21 e56_22 e56_23 e56_24 e56_25 e56_26 e56_27 e56_28); omega)
        have Fs56 : rR s56 15 = rR σ 15 := by first | assumption | ((try simp only [rR_sF, rR_sA, rR_sT, rR_sL] at e56_0 e56_1 e56_2 e56_3 e56_4 e56_5 e56_6 e56_7 e56_8 e56_9 e56_10 e56_11 e56_12 e56_13 e56_14 e56_15 e56_16 e56_17 e56_18 e56_19 e56_20 e56_21 e56_22 e56_23 e56_24 e56_25 e56_26 e56_27 e56_28); omega)
        have zr56 := fz_rng s56
        have zc56 : fz s56 = 0 → fz s32 = 0 := fun hf => by omega
        have A56 : Im (fz s56 = 0) (RG (RT σ) s56 (rR σ 7) 0) := fun hf => RG.trk hp_2 (A32 (zc56 hf)) q56_5 (Or.inr (Or.inl rfl))
        obtain ⟨g56, X56⟩ := EN_30 (P := fz s56 = 0) 0 0 hp_2 (fun hf => Gu74 (zc56 hf)) (fun hf => q56_5) q56_1 q56_2 q56_6 rfl rfl q56_11 (fun hf => by (try simp only [rF_sT, rF_sA]); (repeat' (with_reducible apply And.intro)) <;> first | trivial | omega)
        have Ku75 : Im (fz s56 = 0) (GK g g56 (rF σ (rR σ 7) 7) (rF s56 (rR σ 7) 7) 0) := fun hf => GK.gs (Ku73 (zc56 hf)) (X56 hf).2.1
        have Gu76 : Im (fz s56 = 0) _ := fun hf => (X56 hf).1
        have O56 : Im (fz s56 = 0) _ := fun hf => (X56 hf).2.2.1
        have rNMp_56 : rNMp s56 := rNMp.grow (k := (rR σ 7)) (σ := s32) rNMp_32 Ks32 Ks56 (by omega) (by omega) (by assumption) (by assumption)
        obtain ⟨gu77, Xu78⟩ := EC_30 (P := fz s56 = 0) 0 Gu76 O56 (fun hf => by omega)
        have O56u79 : Im (fz s56 = 0) _ := fun hf => (Xu78 hf).2.1
        have Ku80 : Im (fz s56 = 0) (GK g gu77 (rF σ (rR σ 7) 7) (rF s56 (rR σ 7) 7) 0) := fun hf => GK.kc (Ku75 hf) (Xu78 hf).2.2 (by omega)
        have Gu81 : Im (fz s56 = 0) _ := fun hf => (Xu78 hf).1
        have Vu82 : Im (fz s56 = 0) _ := fun hf => NR_re19 (O56u79 hf) (Xu78 hf).2.2 (O56 hf) (by rw [so_19]; omega)
        exact (by (try simp only [post_X14_readValue, Ks56, Fs56]); (all_goals (repeat' (first | with_reducible intro _ | with_reducible apply And.intro | with_reducible refine Exists.intro gu77 ?_ | with_reducible refine Im.and ?_ ?_))); all_goals (first | assumption | trivial | ((with_reducible refine Im.i fun hf_ => ?_); first | exact (A56 hf_) | exact (Gu81 hf_) | exact (Ku80 hf_) | exact (Vu82 hf_).cst | exact ok1.i | (exact LI.z (fun h => absurd h (by decide))) | (exact absurd hf_ (by omega)) | omega) | (unfold FPZ; (try simp only [Ks56, Fs56]); omega) | (unfold FQZ; (try simp only [Ks56, Fs56]); omega) | omega | (have zz_ := fz_z (by assumption); omega) | (split <;> omega) | done))
  · have z8 := fz_n c8
    exact (by (try simp only [post_X14_readValue, Ks1, Fs1]); (all_goals (repeat' (first | with_reducible intro _ | with_reducible apply And.intro | with_reducible refine Exists.intro g ?_ | with_reducible refine Im.and ?_ ?_))); all_goals (first | assumption | trivial | ((with_reducible refine Im.i fun hf_ => ?_); first | exact (A1 hf_) | exact (Gu2 hf_) | exact (Ku1 hf_) | exact ok1.i | (exact LI.z (fun h => absurd h (by decide))) | (exact absurd hf_ (by omega)) | omega) | (unfold FPZ; (try simp only [Ks1, Fs1]); omega) | (unfold FQZ; (try simp only [Ks1, Fs1]); omega) | omega | (have zz_ := fz_z (by assumption); omega) | (split <;> omega) | done))
theorem wX14_readValue (l : Launch) (G : zG) (κ : Nat → Nat) (σ : rS) (x1 : Int) (gg : Nat) (U : Int) (g : Nat → Int → Int) (hwf : rWF σ) (hx1 : rng x1) (Q : Int → rS → Prop) (h : VC_X14_readValue σ x1 gg U g Q) : rMi l G κ yX14_readValue cX14_readValue 4 .int 462 18050 [.ref (κ 0), iv x1] σ (fun x s => rKeep 0x6c3f3e21c00 0x4100001280 0x13c0c000000 0x3ee0000d7f 0 σ s ∧ Q x s) := by
  refine zMi.intro (by decide +kernel) (Nat.le_of_ble_eq_true rfl) (fun X hC hR => ?_)
  obtain ⟨g0, h⟩ := h
  refine z_aload_n hC (pc := 0) 0 dX14_readValue_0 rfl rfl ?_
  obtain ⟨p10, h⟩ := h
  refine y_callVv hC (pc := 1) (As := []) (kX14_skip l G κ σ  hwf  p10) dmX14_skip zf14 rOb_0 dX14_readValue_1 zw2985 rfl rfl (Nat.le_of_ble_eq_true rfl) (Nat.le_of_ble_eq_true rfl) (Nat.le_of_ble_eq_true rfl) (Nat.le_of_ble_eq_true rfl) (Nat.le_of_ble_eq_true rfl) (kk := fun s1 Ws1 qs1 => ?_)
  have h := h s1 Ws1 (rNMp.keep qs1.1 rfl rfl rfl rfl rfl) (PNp.keep qs1.1 rfl rfl rfl rfl rfl) (qs1.1.R rfl) (qs1.1.R rfl) (qs1.1.F rfl) (qs1.1.F rfl) (qs1.1.F rfl) (qs1.1.F rfl) (qs1.1.F rfl) (qs1.1.F rfl) (qs1.1.F rfl) (qs1.1.F rfl) (qs1.1.F rfl) (qs1.1.F rfl) (qs1.1.F rfl) (qs1.1.F rfl) (qs1.1.F rfl) (qs1.1.F rfl) (fun i => qs1.1.A (f := 27) (by decide) rfl) (fun i => qs1.1.A (f := 34) (by decide) rfl) (fun i => qs1.1.A (f := 35) (by decide) rfl) (fun i => qs1.1.A (f := 40) (by decide) rfl) (qs1.1.FG g0 rfl) (qs1.1.FG g0 rfl) (qs1.1.FG g0 rfl) (qs1.1.FG g0 rfl) (qs1.1.FG g0 rfl) (fun i => qs1.1.AG (f := 10) g0 (by decide) rfl) (fun i => qs1.1.AG (f := 11) g0 (by decide) rfl) (fun _ _ hp => qs1.1.FL hp) (RG.keep (c0 := 0) qs1.1 rfl rfl rfl rfl rfl rfl rfl rfl rfl rfl rfl rfl rfl rfl rfl rfl rfl rfl) qs1.2
  refine z_aload_n hC (pc := 4) 0 dX14_readValue_4 rfl rfl ?_
  refine y_get hC (pc := 5) zf14 rOb_0 10 (v := iv (rF s1 0 10)) dX14_readValue_5 zw2478 (rv_i (Or.inl rfl) rfl) (kk := ?_)
  have h := h (Ws1.f _ _)
  obtain ⟨hT, hF⟩ := h
  refine y_if_eq hC (pc := 8) 13 (Ws1.f _ _) dX14_readValue_8 (by decide) (fun c => ?_) (fun c => ?_)
  · have h := hT c
    refine z_aload_n hC (pc := 13) 0 dX14_readValue_13 rfl rfl ?_
    refine y_get hC (pc := 14) zf14 rOb_0 17 (v := iv (rF s1 0 17)) dX14_readValue_14 zw2484 (rv_i (Or.inl rfl) rfl) (kk := ?_)
    have h := h (Ws1.f _ _)
    refine z_istore_n hC (pc := 17) (lv' := [(2, iv (rF s1 0 17)), (0, .ref (κ 0)), (1, iv x1)]) dX14_readValue_17 rfl (by decide) rfl ?_
    refine z_aload_n hC (pc := 18) 1 dX14_readValue_18 rfl rfl ?_
    refine z_aload_n hC (pc := 19) 1 dX14_readValue_19 rfl rfl ?_
    refine y_get hC (pc := 20) zf14 rOb_0 17 (v := iv (rF s1 0 17)) dX14_readValue_20 zw2484 (rv_i (Or.inl rfl) rfl) (kk := ?_)
    obtain ⟨p11, h⟩ := h
    refine y_callVi hC (pc := 23) (As := [iv (rF s1 0 17)]) (kX14_fc l G κ s1 (rF s1 0 17) Ws1 (Ws1.f _ _) p11) dmX14_fc zf14 rOb_0 dX14_readValue_23 zw2993 rfl rfl (Nat.le_of_ble_eq_true rfl) (Nat.le_of_ble_eq_true rfl) (Nat.le_of_ble_eq_true rfl) (Nat.le_of_ble_eq_true rfl) (Nat.le_of_ble_eq_true rfl) (kk := fun v23 s23 hv23 Ws23 qs23 => ?_)
    obtain ⟨es23, qs23⟩ := qs23
    have es23 := es23.symm
    subst es23
    have h := h v23 hv23 qs23
    refine z_bipush hC (pc := 26) (v := Int32.ofInt 34) dX14_readValue_26 (by decide) ?_
    obtain ⟨hT, hF⟩ := h
    refine y_icmp_ne hC (pc := 28) 64 hv23 (r_lit rfl) dX14_readValue_28 (by decide) (fun c => ?_) (fun c => ?_)
    · have h := hT c
      refine z_aload_n hC (pc := 64) 1 dX14_readValue_64 rfl rfl ?_
      refine z_aload_n hC (pc := 65) 1 dX14_readValue_65 rfl rfl ?_
      refine y_get hC (pc := 66) zf14 rOb_0 17 (v := iv (rF s1 0 17)) dX14_readValue_66 zw2484 (rv_i (Or.inl rfl) rfl) (kk := ?_)
      obtain ⟨p12, h⟩ := h
      refine y_callVi hC (pc := 69) (As := [iv (rF s1 0 17)]) (kX14_fc l G κ s1 (rF s1 0 17) Ws1 (Ws1.f _ _) p12) dmX14_fc zf14 rOb_0 dX14_readValue_69 zw2993 rfl rfl (Nat.le_of_ble_eq_true rfl) (Nat.le_of_ble_eq_true rfl) (Nat.le_of_ble_eq_true rfl) (Nat.le_of_ble_eq_true rfl) (Nat.le_of_ble_eq_true rfl) (kk := fun v69 s69 hv69 Ws69 qs69 => ?_)
      obtain ⟨es69, qs69⟩ := qs69
      have es69 := es69.symm
      subst es69
      have h := h v69 hv69 qs69
      refine z_bipush hC (pc := 72) (v := Int32.ofInt 123) dX14_readValue_72 (by decide) ?_
      obtain ⟨hT, hF⟩ := h
      refine y_icmp_ne hC (pc := 74) 82 hv69 (r_lit rfl) dX14_readValue_74 (by decide) (fun c => ?_) (fun c => ?_)
      · have h := hT c
        refine z_aload_n hC (pc := 82) 1 dX14_readValue_82 rfl rfl ?_
        refine z_ldcSw hC (pc := 83) dX14_readValue_83 zS_26 ?_
        obtain ⟨p13, h⟩ := h
        refine y_callVi hC (pc := 86) (As := [.ref (G.2.2 53)]) (kX14_isFileWord_f l G κ s1 (G.2.2 53) 4 Ws1 (rSt_26 G) p13) dmX14_isFileWord zf14 rOb_0 dX14_readValue_86 zw3005 rfl rfl (Nat.le_of_ble_eq_true rfl) (Nat.le_of_ble_eq_true rfl) (Nat.le_of_ble_eq_true rfl) (Nat.le_of_ble_eq_true rfl) (Nat.le_of_ble_eq_true rfl) (kk := fun v86 s86 hv86 Ws86 qs86 => ?_)
        obtain ⟨es86, qs86⟩ := qs86
        have es86 := es86.symm
        subst es86
        have h := h v86 hv86 qs86
        obtain ⟨hT, hF⟩ := h
        refine y_if_ne hC (pc := 89) 102 hv86 dX14_readValue_89 (by decide) (fun c => ?_) (fun c => ?_)
        · have h := hT c
          refine z_aload_n hC (pc := 102) 1 dX14_readValue_102 rfl rfl ?_
          refine z_aload_n hC (pc := 103) 1 dX14_readValue_103 rfl rfl ?_
          refine z_ldcSw hC (pc := 104) dX14_readValue_104 zS_26 ?_
          obtain ⟨p14, h⟩ := h
          refine y_callVi hC (pc := 107) (As := [.ref (G.2.2 53)]) (kX14_isFileWord_f l G κ s1 (G.2.2 53) 4 Ws1 (rSt_26 G) p14) dmX14_isFileWord zf14 rOb_0 dX14_readValue_107 zw3005 rfl rfl (Nat.le_of_ble_eq_true rfl) (Nat.le_of_ble_eq_true rfl) (Nat.le_of_ble_eq_true rfl) (Nat.le_of_ble_eq_true rfl) (Nat.le_of_ble_eq_true rfl) (kk := fun v107 s107 hv107 Ws107 qs107 => ?_)
          obtain ⟨es107, qs107⟩ := qs107
          have es107 := es107.symm
          subst es107
          have h := h v107 hv107 qs107
          obtain ⟨hT, hF⟩ := h
          refine y_if_eq hC (pc := 110) 118 hv107 dX14_readValue_110 (by decide) (fun c => ?_) (fun c => ?_)
          · have h := hT c
            refine z_bipush hC (pc := 118) (v := Int32.ofInt 32) dX14_readValue_118 (by decide) ?_
            refine z_iconst hC (pc := 120) (v := Int32.ofInt 0) dX14_readValue_120 (by decide) ?_
            refine z_iconst hC (pc := 121) (v := Int32.ofInt 0) dX14_readValue_121 (by decide) ?_
            refine z_iload_n hC (pc := 122) 0 dX14_readValue_122 rfl rfl ?_
            obtain ⟨p15, h⟩ := h
            refine y_callVi hC (pc := 123) (As := [iv 32, iv 0, iv 0, iv (rF s1 0 17)]) (kX14_node_t l G κ s1 32 0 0 (rF s1 0 17) gg Ws1 (r_lit rfl) (r_lit rfl) (r_lit rfl) (Ws1.f _ _) p15) dmX14_node zf14 rOb_0 dX14_readValue_123 zw3170 rfl rfl (Nat.le_of_ble_eq_true rfl) (Nat.le_of_ble_eq_true rfl) (Nat.le_of_ble_eq_true rfl) (Nat.le_of_ble_eq_true rfl) (Nat.le_of_ble_eq_true rfl) (kk := fun v123 s123 hv123 Ws123 qs123 => ?_)
            have h := h v123 s123 hv123 Ws123 (rNMp.keep qs123.1 rfl rfl rfl rfl rfl) (qs123.1.R rfl) (qs123.1.R rfl) (qs123.1.F rfl) (qs123.1.F rfl) (qs123.1.F rfl) (qs123.1.F rfl) (qs123.1.F rfl) (qs123.1.F rfl) (qs123.1.F rfl) (qs123.1.F rfl) (qs123.1.F rfl) (qs123.1.F rfl) (qs123.1.F rfl) (qs123.1.F rfl) (qs123.1.F rfl) (qs123.1.F rfl) (qs123.1.F rfl) (qs123.1.F rfl) (fun i => qs123.1.A (f := 27) (by decide) rfl) (fun i => qs123.1.A (f := 34) (by decide) rfl) (fun i => qs123.1.A (f := 35) (by decide) rfl) (fun i => qs123.1.A (f := 40) (by decide) rfl) (qs123.1.FG g0 rfl) (qs123.1.FG g0 rfl) (qs123.1.FG g0 rfl) (qs123.1.FG g0 rfl) (fun i => qs123.1.AG (f := 10) g0 (by decide) rfl) (fun i => qs123.1.AG (f := 11) g0 (by decide) rfl) (fun _ _ hp => qs123.1.FL hp) (fz_keep qs123.1 rfl) qs123.2
            refine z_istore_n hC (pc := 126) (lv' := [(3, iv v123), (2, iv (rF s1 0 17)), (0, .ref (κ 0)), (1, iv x1)]) dX14_readValue_126 rfl (by decide) rfl ?_
            refine z_aload_n hC (pc := 127) 2 dX14_readValue_127 rfl rfl ?_
            refine z_aload_n hC (pc := 128) 2 dX14_readValue_128 rfl rfl ?_
            obtain ⟨g16, h⟩ := h
            refine y_get hC (pc := 129) zf14 rOb_0 15 (v := .ref (κ (rR σ 15))) dX14_readValue_129 zw2482 (rv_b rfl ((qs123.1.R rfl).trans ((qs1.1.R rfl).trans rfl)) g16) (kk := ?_)
            refine z_aload_n hC (pc := 132) 2 dX14_readValue_132 rfl rfl ?_
            refine y_get hC (pc := 133) zf14 rOb_0 16 (v := iv (rF s123 0 16)) dX14_readValue_133 zw2483 (rv_i (Or.inl rfl) rfl) (kk := ?_)
            have h := h (Ws123.f _ _)
            refine z_aload_n hC (pc := 136) 2 dX14_readValue_136 rfl rfl ?_
            refine y_get hC (pc := 137) zf14 rOb_0 17 (v := iv (rF s1 0 17)) dX14_readValue_137 zw2484 (rv_i (Or.inl rfl) ((qs123.1.F rfl).trans rfl)) (kk := ?_)
            obtain ⟨p17, h⟩ := h
            refine y_callSi hC (pc := 140) (As := [.ref (κ (rR σ 15)), iv (rF s123 0 16), iv (rF s1 0 17)]) (kX14_wordEnd_t l G κ s123 (rR σ 15) 4000 (rF s123 0 16) (rF s1 0 17) Ws123 (rAr_f g16) (Ws123.f _ _) (Ws1.f _ _) p17) dmX14_wordEnd dX14_readValue_140 zw3009 rfl rfl (Nat.le_of_ble_eq_true rfl) (Nat.le_of_ble_eq_true rfl) (Nat.le_of_ble_eq_true rfl) (Nat.le_of_ble_eq_true rfl) (Nat.le_of_ble_eq_true rfl) (kk := fun v140 s140 hv140 Ws140 qs140 => ?_)
            obtain ⟨es140, qs140⟩ := qs140
            have es140 := es140.symm
            subst es140
            have h := h v140 hv140 qs140
            refine y_putI hC (pc := 143) zf14 rOb_0 17 (x := v140) dX14_readValue_143 zw2484 (Or.inl rfl) rfl rfl (kk := ?_)
            have W18 := Ws123.sF (q := 0) (f := 17) (x := v140) hv140
            refine z_iload_n hC (pc := 146) 0 dX14_readValue_146 rfl rfl ?_
            exact y_reti hR dX14_readValue_147 rfl hv123 W18 (Nat.le_of_ble_eq_true rfl) (Nat.le_of_ble_eq_true rfl) ⟨(rKeep.tr (rKeep.tr (rKeep.tr rKeep.rf qs1.1 rfl rfl rfl rfl rfl) qs123.1 rfl rfl rfl rfl rfl) (rKeep.sF0 (f := 17)) rfl rfl rfl rfl rfl), h⟩
          · have h := hF c
            refine z_bipush hC (pc := 113) (v := Int32.ofInt 31) dX14_readValue_113 (by decide) ?_
            refine z_goto hC (pc := 115) 120 dX14_readValue_115 (by decide) ?_
            refine z_iconst hC (pc := 120) (v := Int32.ofInt 0) dX14_readValue_120 (by decide) ?_
            refine z_iconst hC (pc := 121) (v := Int32.ofInt 0) dX14_readValue_121 (by decide) ?_
            refine z_iload_n hC (pc := 122) 0 dX14_readValue_122 rfl rfl ?_
            obtain ⟨p19, h⟩ := h
            refine y_callVi hC (pc := 123) (As := [iv 31, iv 0, iv 0, iv (rF s1 0 17)]) (kX14_node_t l G κ s1 31 0 0 (rF s1 0 17) gg Ws1 (r_lit rfl) (r_lit rfl) (r_lit rfl) (Ws1.f _ _) p19) dmX14_node zf14 rOb_0 dX14_readValue_123 zw3170 rfl rfl (Nat.le_of_ble_eq_true rfl) (Nat.le_of_ble_eq_true rfl) (Nat.le_of_ble_eq_true rfl) (Nat.le_of_ble_eq_true rfl) (Nat.le_of_ble_eq_true rfl) (kk := fun v123 s123 hv123 Ws123 qs123 => ?_)
            have h := h v123 s123 hv123 Ws123 (rNMp.keep qs123.1 rfl rfl rfl rfl rfl) (qs123.1.R rfl) (qs123.1.R rfl) (qs123.1.F rfl) (qs123.1.F rfl) (qs123.1.F rfl) (qs123.1.F rfl) (qs123.1.F rfl) (qs123.1.F rfl) (qs123.1.F rfl) (qs123.1.F rfl) (qs123.1.F rfl) (qs123.1.F rfl) (qs123.1.F rfl) (qs123.1.F rfl) (qs123.1.F rfl) (qs123.1.F rfl) (qs123.1.F rfl) (qs123.1.F rfl) (fun i => qs123.1.A (f := 27) (by decide) rfl) (fun i => qs123.1.A (f := 34) (by decide) rfl) (fun i => qs123.1.A (f := 35) (by decide) rfl) (fun i => qs123.1.A (f := 40) (by decide) rfl) (qs123.1.FG g0 rfl) (qs123.1.FG g0 rfl) (qs123.1.FG g0 rfl) (qs123.1.FG g0 rfl) (fun i => qs123.1.AG (f := 10) g0 (by decide) rfl) (fun i => qs123.1.AG (f := 11) g0 (by decide) rfl) (fun _ _ hp => qs123.1.FL hp) (fz_keep qs123.1 rfl) qs123.2
            refine z_istore_n hC (pc := 126) (lv' := [(3, iv v123), (2, iv (rF s1 0 17)), (0, .ref (κ 0)), (1, iv x1)]) dX14_readValue_126 rfl (by decide) rfl ?_
            refine z_aload_n hC (pc := 127) 2 dX14_readValue_127 rfl rfl ?_
            refine z_aload_n hC (pc := 128) 2 dX14_readValue_128 rfl rfl ?_
            obtain ⟨g20, h⟩ := h
            refine y_get hC (pc := 129) zf14 rOb_0 15 (v := .ref (κ (rR σ 15))) dX14_readValue_129 zw2482 (rv_b rfl ((qs123.1.R rfl).trans ((qs1.1.R rfl).trans rfl)) g20) (kk := ?_)
            refine z_aload_n hC (pc := 132) 2 dX14_readValue_132 rfl rfl ?_
            refine y_get hC (pc := 133) zf14 rOb_0 16 (v := iv (rF s123 0 16)) dX14_readValue_133 zw2483 (rv_i (Or.inl rfl) rfl) (kk := ?_)
            have h := h (Ws123.f _ _)
            refine z_aload_n hC (pc := 136) 2 dX14_readValue_136 rfl rfl ?_
            refine y_get hC (pc := 137) zf14 rOb_0 17 (v := iv (rF s1 0 17)) dX14_readValue_137 zw2484 (rv_i (Or.inl rfl) ((qs123.1.F rfl).trans rfl)) (kk := ?_)
            obtain ⟨p21, h⟩ := h
            refine y_callSi hC (pc := 140) (As := [.ref (κ (rR σ 15)), iv (rF s123 0 16), iv (rF s1 0 17)]) (kX14_wordEnd_t l G κ s123 (rR σ 15) 4000 (rF s123 0 16) (rF s1 0 17) Ws123 (rAr_f g20) (Ws123.f _ _) (Ws1.f _ _) p21) dmX14_wordEnd dX14_readValue_140 zw3009 rfl rfl (Nat.le_of_ble_eq_true rfl) (Nat.le_of_ble_eq_true rfl) (Nat.le_of_ble_eq_true rfl) (Nat.le_of_ble_eq_true rfl) (Nat.le_of_ble_eq_true rfl) (kk := fun v140 s140 hv140 Ws140 qs140 => ?_)
            obtain ⟨es140, qs140⟩ := qs140
            have es140 := es140.symm
            subst es140
            have h := h v140 hv140 qs140
            refine y_putI hC (pc := 143) zf14 rOb_0 17 (x := v140) dX14_readValue_143 zw2484 (Or.inl rfl) rfl rfl (kk := ?_)
            have W22 := Ws123.sF (q := 0) (f := 17) (x := v140) hv140
            refine z_iload_n hC (pc := 146) 0 dX14_readValue_146 rfl rfl ?_
            exact y_reti hR dX14_readValue_147 rfl hv123 W22 (Nat.le_of_ble_eq_true rfl) (Nat.le_of_ble_eq_true rfl) ⟨(rKeep.tr (rKeep.tr (rKeep.tr rKeep.rf qs1.1 rfl rfl rfl rfl rfl) qs123.1 rfl rfl rfl rfl rfl) (rKeep.sF0 (f := 17)) rfl rfl rfl rfl rfl), h⟩
        · have h := hF c
          refine z_aload_n hC (pc := 92) 1 dX14_readValue_92 rfl rfl ?_
          refine z_ldcSw hC (pc := 93) dX14_readValue_93 zS_27 ?_
          obtain ⟨p23, h⟩ := h
          refine y_callVi hC (pc := 96) (As := [.ref (G.2.2 55)]) (kX14_isFileWord_f l G κ s1 (G.2.2 55) 5 Ws1 (rSt_27 G) p23) dmX14_isFileWord zf14 rOb_0 dX14_readValue_96 zw3005 rfl rfl (Nat.le_of_ble_eq_true rfl) (Nat.le_of_ble_eq_true rfl) (Nat.le_of_ble_eq_true rfl) (Nat.le_of_ble_eq_true rfl) (Nat.le_of_ble_eq_true rfl) (kk := fun v96 s96 hv96 Ws96 qs96 => ?_)
          obtain ⟨es96, qs96⟩ := qs96
          have es96 := es96.symm
          subst es96
          have h := h v96 hv96 qs96
          obtain ⟨hT, hF⟩ := h
          refine y_if_eq hC (pc := 99) 148 hv96 dX14_readValue_99 (by decide) (fun c => ?_) (fun c => ?_)
          · have h := hT c
            refine z_iload_n hC (pc := 148) 2 dX14_readValue_148 rfl rfl ?_
            obtain ⟨hT, hF⟩ := h
            refine y_if_eq hC (pc := 149) 182 hx1 dX14_readValue_149 (by decide) (fun c => ?_) (fun c => ?_)
            · have h := hT c
              refine z_iload_n hC (pc := 182) 2 dX14_readValue_182 rfl rfl ?_
              obtain ⟨hT, hF⟩ := h
              refine y_if_ne hC (pc := 183) 226 hx1 dX14_readValue_183 (by decide) (fun c => ?_) (fun c => ?_)
              · have h := hT c
                refine z_aload_n hC (pc := 226) 1 dX14_readValue_226 rfl rfl ?_
                refine z_iconst hC (pc := 227) (v := Int32.ofInt 1) dX14_readValue_227 (by decide) ?_
                refine z_aload_n hC (pc := 228) 1 dX14_readValue_228 rfl rfl ?_
                refine y_get hC (pc := 229) zf14 rOb_0 17 (v := iv (rF s1 0 17)) dX14_readValue_229 zw2484 (rv_i (Or.inl rfl) rfl) (kk := ?_)
                obtain ⟨p24, h⟩ := h
                refine y_callVv hC (pc := 232) (As := [iv 1, iv (rF s1 0 17)]) (kX14_bad l G κ s1 1 (rF s1 0 17) Ws1 (r_lit rfl) (Ws1.f _ _) p24) dmX14_bad zf14 rOb_0 dX14_readValue_232 zw3000 rfl rfl (Nat.le_of_ble_eq_true rfl) (Nat.le_of_ble_eq_true rfl) (Nat.le_of_ble_eq_true rfl) (Nat.le_of_ble_eq_true rfl) (Nat.le_of_ble_eq_true rfl) (kk := fun s232 Ws232 qs232 => ?_)
                have h := h s232 Ws232 (rNMp.keep qs232.1 rfl rfl rfl rfl rfl) (PNp.keep qs232.1 rfl rfl rfl rfl rfl) (qs232.1.R rfl) (qs232.1.R rfl) (qs232.1.F rfl) (qs232.1.F rfl) (qs232.1.F rfl) (qs232.1.F rfl) (qs232.1.F rfl) (qs232.1.F rfl) (qs232.1.F rfl) (qs232.1.F rfl) (qs232.1.F rfl) (qs232.1.F rfl) (qs232.1.F rfl) (qs232.1.F rfl) (qs232.1.F rfl) (qs232.1.F rfl) (qs232.1.F rfl) (fun i => qs232.1.A (f := 27) (by decide) rfl) (fun i => qs232.1.A (f := 34) (by decide) rfl) (fun i => qs232.1.A (f := 35) (by decide) rfl) (fun i => qs232.1.A (f := 40) (by decide) rfl) (qs232.1.FG g0 rfl) (qs232.1.FG g0 rfl) (qs232.1.FG g0 rfl) (qs232.1.FG g0 rfl) (qs232.1.FG g0 rfl) (fun i => qs232.1.AG (f := 10) g0 (by decide) rfl) (fun i => qs232.1.AG (f := 11) g0 (by decide) rfl) (fun _ _ hp => qs232.1.FL hp) (RG.keep (c0 := 0) qs232.1 rfl rfl rfl rfl rfl rfl rfl rfl rfl rfl rfl rfl rfl rfl rfl rfl rfl rfl) qs232.2
                refine z_iconst hC (pc := 235) (v := Int32.ofInt 0) dX14_readValue_235 (by decide) ?_
                exact y_reti hR dX14_readValue_236 rfl (r_lit rfl) Ws232 (Nat.le_of_ble_eq_true rfl) (Nat.le_of_ble_eq_true rfl) ⟨(rKeep.tr (rKeep.tr rKeep.rf qs1.1 rfl rfl rfl rfl rfl) qs232.1 rfl rfl rfl rfl rfl), h⟩
              · have h := hF c
                refine z_aload_n hC (pc := 186) 1 dX14_readValue_186 rfl rfl ?_
                refine z_aload_n hC (pc := 187) 1 dX14_readValue_187 rfl rfl ?_
                refine y_get hC (pc := 188) zf14 rOb_0 17 (v := iv (rF s1 0 17)) dX14_readValue_188 zw2484 (rv_i (Or.inl rfl) rfl) (kk := ?_)
                obtain ⟨p25, h⟩ := h
                refine y_callVi hC (pc := 191) (As := [iv (rF s1 0 17)]) (kX14_fc l G κ s1 (rF s1 0 17) Ws1 (Ws1.f _ _) p25) dmX14_fc zf14 rOb_0 dX14_readValue_191 zw2993 rfl rfl (Nat.le_of_ble_eq_true rfl) (Nat.le_of_ble_eq_true rfl) (Nat.le_of_ble_eq_true rfl) (Nat.le_of_ble_eq_true rfl) (Nat.le_of_ble_eq_true rfl) (kk := fun v191 s191 hv191 Ws191 qs191 => ?_)
                obtain ⟨es191, qs191⟩ := qs191
                have es191 := es191.symm
                subst es191
                have h := h v191 hv191 qs191
                refine z_bipush hC (pc := 194) (v := Int32.ofInt 91) dX14_readValue_194 (by decide) ?_
                obtain ⟨hT, hF⟩ := h
                refine y_icmp_ne hC (pc := 196) 226 hv191 (r_lit rfl) dX14_readValue_196 (by decide) (fun c => ?_) (fun c => ?_)
                · have h := hT c
                  refine z_aload_n hC (pc := 226) 1 dX14_readValue_226 rfl rfl ?_
                  refine z_iconst hC (pc := 227) (v := Int32.ofInt 1) dX14_readValue_227 (by decide) ?_
                  refine z_aload_n hC (pc := 228) 1 dX14_readValue_228 rfl rfl ?_
                  refine y_get hC (pc := 229) zf14 rOb_0 17 (v := iv (rF s1 0 17)) dX14_readValue_229 zw2484 (rv_i (Or.inl rfl) rfl) (kk := ?_)
                  obtain ⟨p26, h⟩ := h
                  refine y_callVv hC (pc := 232) (As := [iv 1, iv (rF s1 0 17)]) (kX14_bad l G κ s1 1 (rF s1 0 17) Ws1 (r_lit rfl) (Ws1.f _ _) p26) dmX14_bad zf14 rOb_0 dX14_readValue_232 zw3000 rfl rfl (Nat.le_of_ble_eq_true rfl) (Nat.le_of_ble_eq_true rfl) (Nat.le_of_ble_eq_true rfl) (Nat.le_of_ble_eq_true rfl) (Nat.le_of_ble_eq_true rfl) (kk := fun s232 Ws232 qs232 => ?_)
                  have h := h s232 Ws232 (rNMp.keep qs232.1 rfl rfl rfl rfl rfl) (PNp.keep qs232.1 rfl rfl rfl rfl rfl) (qs232.1.R rfl) (qs232.1.R rfl) (qs232.1.F rfl) (qs232.1.F rfl) (qs232.1.F rfl) (qs232.1.F rfl) (qs232.1.F rfl) (qs232.1.F rfl) (qs232.1.F rfl) (qs232.1.F rfl) (qs232.1.F rfl) (qs232.1.F rfl) (qs232.1.F rfl) (qs232.1.F rfl) (qs232.1.F rfl) (qs232.1.F rfl) (qs232.1.F rfl) (fun i => qs232.1.A (f := 27) (by decide) rfl) (fun i => qs232.1.A (f := 34) (by decide) rfl) (fun i => qs232.1.A (f := 35) (by decide) rfl) (fun i => qs232.1.A (f := 40) (by decide) rfl) (qs232.1.FG g0 rfl) (qs232.1.FG g0 rfl) (qs232.1.FG g0 rfl) (qs232.1.FG g0 rfl) (qs232.1.FG g0 rfl) (fun i => qs232.1.AG (f := 10) g0 (by decide) rfl) (fun i => qs232.1.AG (f := 11) g0 (by decide) rfl) (fun _ _ hp => qs232.1.FL hp) (RG.keep (c0 := 0) qs232.1 rfl rfl rfl rfl rfl rfl rfl rfl rfl rfl rfl rfl rfl rfl rfl rfl rfl rfl) qs232.2
                  refine z_iconst hC (pc := 235) (v := Int32.ofInt 0) dX14_readValue_235 (by decide) ?_
                  exact y_reti hR dX14_readValue_236 rfl (r_lit rfl) Ws232 (Nat.le_of_ble_eq_true rfl) (Nat.le_of_ble_eq_true rfl) ⟨(rKeep.tr (rKeep.tr rKeep.rf qs1.1 rfl rfl rfl rfl rfl) qs232.1 rfl rfl rfl rfl rfl), h⟩
                · have h := hF c
                  refine z_aload_n hC (pc := 199) 1 dX14_readValue_199 rfl rfl ?_
                  refine z_dup hC (pc := 200) dX14_readValue_200 rfl ?_
                  refine y_get hC (pc := 201) zf14 rOb_0 17 (v := iv (rF s1 0 17)) dX14_readValue_201 zw2484 (rv_i (Or.inl rfl) rfl) (kk := ?_)
                  refine z_iconst hC (pc := 204) (v := Int32.ofInt 1) dX14_readValue_204 (by decide) ?_
                  refine y_iadd hC (pc := 205) (v := ((rF s1 0 17) + 1)) dX14_readValue_205 rfl ?_
                  obtain ⟨r27, h⟩ := h
                  refine y_putI hC (pc := 206) zf14 rOb_0 17 (x := ((rF s1 0 17) + 1)) dX14_readValue_206 zw2484 (Or.inl rfl) rfl rfl (kk := ?_)
                  have W28 := Ws1.sF (q := 0) (f := 17) (x := ((rF s1 0 17) + 1)) r27
                  refine z_aload_n hC (pc := 209) 1 dX14_readValue_209 rfl rfl ?_
                  refine z_ldcSw hC (pc := 210) dX14_readValue_210 zS_35 ?_
                  obtain ⟨p29, h⟩ := h
                  refine y_callVv hC (pc := 213) (As := [.ref (G.2.2 71)]) (kX14_sign l G κ (sF s1 0 17 ((rF s1 0 17) + 1)) (G.2.2 71) 1 W28 (rSt_35 G) p29) dmX14_sign zf14 rOb_0 dX14_readValue_213 zw3034 rfl rfl (Nat.le_of_ble_eq_true rfl) (Nat.le_of_ble_eq_true rfl) (Nat.le_of_ble_eq_true rfl) (Nat.le_of_ble_eq_true rfl) (Nat.le_of_ble_eq_true rfl) (kk := fun s213 Ws213 qs213 => ?_)
                  have h := h s213 Ws213 (rNMp.keep qs213.1 rfl rfl rfl rfl rfl) (PNp.keep qs213.1 rfl rfl rfl rfl rfl) (qs213.1.R rfl) (qs213.1.R rfl) (qs213.1.F rfl) (qs213.1.F rfl) (qs213.1.F rfl) (qs213.1.F rfl) (qs213.1.F rfl) (qs213.1.F rfl) (qs213.1.F rfl) (qs213.1.F rfl) (qs213.1.F rfl) (qs213.1.F rfl) (qs213.1.F rfl) (qs213.1.F rfl) (qs213.1.F rfl) (qs213.1.F rfl) (fun i => qs213.1.A (f := 27) (by decide) rfl) (fun i => qs213.1.A (f := 34) (by decide) rfl) (fun i => qs213.1.A (f := 35) (by decide) rfl) (fun i => qs213.1.A (f := 40) (by decide) rfl) (qs213.1.FG g0 rfl) (qs213.1.FG g0 rfl) (qs213.1.FG g0 rfl) (qs213.1.FG g0 rfl) (qs213.1.FG g0 rfl) (fun i => qs213.1.AG (f := 10) g0 (by decide) rfl) (fun i => qs213.1.AG (f := 11) g0 (by decide) rfl) (fun _ _ hp => qs213.1.FL hp) (RG.keep (c0 := 0) qs213.1 rfl rfl rfl rfl rfl rfl rfl rfl rfl rfl rfl rfl rfl rfl rfl rfl rfl rfl) qs213.2
                  refine z_aload_n hC (pc := 216) 1 dX14_readValue_216 rfl rfl ?_
                  refine z_bipush hC (pc := 217) (v := Int32.ofInt 34) dX14_readValue_217 (by decide) ?_
                  refine z_iconst hC (pc := 219) (v := Int32.ofInt 0) dX14_readValue_219 (by decide) ?_
                  refine z_iconst hC (pc := 220) (v := Int32.ofInt 0) dX14_readValue_220 (by decide) ?_
                  refine z_iload_n hC (pc := 221) 0 dX14_readValue_221 rfl rfl ?_
                  obtain ⟨p30, h⟩ := h
                  refine y_callVi hC (pc := 222) (As := [iv 34, iv 0, iv 0, iv (rF s1 0 17)]) (kX14_node_t l G κ s213 34 0 0 (rF s1 0 17) gg Ws213 (r_lit rfl) (r_lit rfl) (r_lit rfl) (Ws1.f _ _) p30) dmX14_node zf14 rOb_0 dX14_readValue_222 zw3170 rfl rfl (Nat.le_of_ble_eq_true rfl) (Nat.le_of_ble_eq_true rfl) (Nat.le_of_ble_eq_true rfl) (Nat.le_of_ble_eq_true rfl) (Nat.le_of_ble_eq_true rfl) (kk := fun v222 s222 hv222 Ws222 qs222 => ?_)
                  have h := h v222 s222 hv222 Ws222 (rNMp.keep qs222.1 rfl rfl rfl rfl rfl) (qs222.1.R rfl) (qs222.1.R rfl) (qs222.1.F rfl) (qs222.1.F rfl) (qs222.1.F rfl) (qs222.1.F rfl) (qs222.1.F rfl) (qs222.1.F rfl) (qs222.1.F rfl) (qs222.1.F rfl) (qs222.1.F rfl) (qs222.1.F rfl) (qs222.1.F rfl) (qs222.1.F rfl) (qs222.1.F rfl) (qs222.1.F rfl) (qs222.1.F rfl) (qs222.1.F rfl) (fun i => qs222.1.A (f := 27) (by decide) rfl) (fun i => qs222.1.A (f := 34) (by decide) rfl) (fun i => qs222.1.A (f := 35) (by decide) rfl) (fun i => qs222.1.A (f := 40) (by decide) rfl) (qs222.1.FG g0 rfl) (qs222.1.FG g0 rfl) (qs222.1.FG g0 rfl) (qs222.1.FG g0 rfl) (fun i => qs222.1.AG (f := 10) g0 (by decide) rfl) (fun i => qs222.1.AG (f := 11) g0 (by decide) rfl) (fun _ _ hp => qs222.1.FL hp) (fz_keep qs222.1 rfl) qs222.2
                  exact y_reti hR dX14_readValue_225 rfl hv222 Ws222 (Nat.le_of_ble_eq_true rfl) (Nat.le_of_ble_eq_true rfl) ⟨(rKeep.tr (rKeep.tr (rKeep.tr (rKeep.tr rKeep.rf qs1.1 rfl rfl rfl rfl rfl) (rKeep.sF0 (f := 17)) rfl rfl rfl rfl rfl) qs213.1 rfl rfl rfl rfl rfl) qs222.1 rfl rfl rfl rfl rfl), h⟩
            · have h := hF c
              refine z_aload_n hC (pc := 152) 1 dX14_readValue_152 rfl rfl ?_
              refine z_ldcSw hC (pc := 153) dX14_readValue_153 zS_25 ?_
              obtain ⟨p31, h⟩ := h
              refine y_callVi hC (pc := 156) (As := [.ref (G.2.2 51)]) (kX14_isFileWord_f l G κ s1 (G.2.2 51) 3 Ws1 (rSt_25 G) p31) dmX14_isFileWord zf14 rOb_0 dX14_readValue_156 zw3005 rfl rfl (Nat.le_of_ble_eq_true rfl) (Nat.le_of_ble_eq_true rfl) (Nat.le_of_ble_eq_true rfl) (Nat.le_of_ble_eq_true rfl) (Nat.le_of_ble_eq_true rfl) (kk := fun v156 s156 hv156 Ws156 qs156 => ?_)
              obtain ⟨es156, qs156⟩ := qs156
              have es156 := es156.symm
              subst es156
              have h := h v156 hv156 qs156
              obtain ⟨hT, hF⟩ := h
              refine y_if_eq hC (pc := 159) 182 hv156 dX14_readValue_159 (by decide) (fun c => ?_) (fun c => ?_)
              · have h := hT c
                refine z_iload_n hC (pc := 182) 2 dX14_readValue_182 rfl rfl ?_
                obtain ⟨hT, hF⟩ := h
                refine y_if_ne hC (pc := 183) 226 hx1 dX14_readValue_183 (by decide) (fun c => ?_) (fun c => ?_)
                · have h := hT c
                  refine z_aload_n hC (pc := 226) 1 dX14_readValue_226 rfl rfl ?_
                  refine z_iconst hC (pc := 227) (v := Int32.ofInt 1) dX14_readValue_227 (by decide) ?_
                  refine z_aload_n hC (pc := 228) 1 dX14_readValue_228 rfl rfl ?_
                  refine y_get hC (pc := 229) zf14 rOb_0 17 (v := iv (rF s1 0 17)) dX14_readValue_229 zw2484 (rv_i (Or.inl rfl) rfl) (kk := ?_)
                  obtain ⟨p32, h⟩ := h
                  refine y_callVv hC (pc := 232) (As := [iv 1, iv (rF s1 0 17)]) (kX14_bad l G κ s1 1 (rF s1 0 17) Ws1 (r_lit rfl) (Ws1.f _ _) p32) dmX14_bad zf14 rOb_0 dX14_readValue_232 zw3000 rfl rfl (Nat.le_of_ble_eq_true rfl) (Nat.le_of_ble_eq_true rfl) (Nat.le_of_ble_eq_true rfl) (Nat.le_of_ble_eq_true rfl) (Nat.le_of_ble_eq_true rfl) (kk := fun s232 Ws232 qs232 => ?_)
                  have h := h s232 Ws232 (rNMp.keep qs232.1 rfl rfl rfl rfl rfl) (PNp.keep qs232.1 rfl rfl rfl rfl rfl) (qs232.1.R rfl) (qs232.1.R rfl) (qs232.1.F rfl) (qs232.1.F rfl) (qs232.1.F rfl) (qs232.1.F rfl) (qs232.1.F rfl) (qs232.1.F rfl) (qs232.1.F rfl) (qs232.1.F rfl) (qs232.1.F rfl) (qs232.1.F rfl) (qs232.1.F rfl) (qs232.1.F rfl) (qs232.1.F rfl) (qs232.1.F rfl) (qs232.1.F rfl) (fun i => qs232.1.A (f := 27) (by decide) rfl) (fun i => qs232.1.A (f := 34) (by decide) rfl) (fun i => qs232.1.A (f := 35) (by decide) rfl) (fun i => qs232.1.A (f := 40) (by decide) rfl) (qs232.1.FG g0 rfl) (qs232.1.FG g0 rfl) (qs232.1.FG g0 rfl) (qs232.1.FG g0 rfl) (qs232.1.FG g0 rfl) (fun i => qs232.1.AG (f := 10) g0 (by decide) rfl) (fun i => qs232.1.AG (f := 11) g0 (by decide) rfl) (fun _ _ hp => qs232.1.FL hp) (RG.keep (c0 := 0) qs232.1 rfl rfl rfl rfl rfl rfl rfl rfl rfl rfl rfl rfl rfl rfl rfl rfl rfl rfl) qs232.2
                  refine z_iconst hC (pc := 235) (v := Int32.ofInt 0) dX14_readValue_235 (by decide) ?_
                  exact y_reti hR dX14_readValue_236 rfl (r_lit rfl) Ws232 (Nat.le_of_ble_eq_true rfl) (Nat.le_of_ble_eq_true rfl) ⟨(rKeep.tr (rKeep.tr rKeep.rf qs1.1 rfl rfl rfl rfl rfl) qs232.1 rfl rfl rfl rfl rfl), h⟩
                · have h := hF c
                  refine z_aload_n hC (pc := 186) 1 dX14_readValue_186 rfl rfl ?_
                  refine z_aload_n hC (pc := 187) 1 dX14_readValue_187 rfl rfl ?_
                  refine y_get hC (pc := 188) zf14 rOb_0 17 (v := iv (rF s1 0 17)) dX14_readValue_188 zw2484 (rv_i (Or.inl rfl) rfl) (kk := ?_)
                  obtain ⟨p33, h⟩ := h
                  refine y_callVi hC (pc := 191) (As := [iv (rF s1 0 17)]) (kX14_fc l G κ s1 (rF s1 0 17) Ws1 (Ws1.f _ _) p33) dmX14_fc zf14 rOb_0 dX14_readValue_191 zw2993 rfl rfl (Nat.le_of_ble_eq_true rfl) (Nat.le_of_ble_eq_true rfl) (Nat.le_of_ble_eq_true rfl) (Nat.le_of_ble_eq_true rfl) (Nat.le_of_ble_eq_true rfl) (kk := fun v191 s191 hv191 Ws191 qs191 => ?_)
                  obtain ⟨es191, qs191⟩ := qs191
                  have es191 := es191.symm
                  subst es191
                  have h := h v191 hv191 qs191
                  refine z_bipush hC (pc := 194) (v := Int32.ofInt 91) dX14_readValue_194 (by decide) ?_
                  obtain ⟨hT, hF⟩ := h
                  refine y_icmp_ne hC (pc := 196) 226 hv191 (r_lit rfl) dX14_readValue_196 (by decide) (fun c => ?_) (fun c => ?_)
                  · have h := hT c
                    refine z_aload_n hC (pc := 226) 1 dX14_readValue_226 rfl rfl ?_
                    refine z_iconst hC (pc := 227) (v := Int32.ofInt 1) dX14_readValue_227 (by decide) ?_
                    refine z_aload_n hC (pc := 228) 1 dX14_readValue_228 rfl rfl ?_
                    refine y_get hC (pc := 229) zf14 rOb_0 17 (v := iv (rF s1 0 17)) dX14_readValue_229 zw2484 (rv_i (Or.inl rfl) rfl) (kk := ?_)
                    obtain ⟨p34, h⟩ := h
                    refine y_callVv hC (pc := 232) (As := [iv 1, iv (rF s1 0 17)]) (kX14_bad l G κ s1 1 (rF s1 0 17) Ws1 (r_lit rfl) (Ws1.f _ _) p34) dmX14_bad zf14 rOb_0 dX14_readValue_232 zw3000 rfl rfl (Nat.le_of_ble_eq_true rfl) (Nat.le_of_ble_eq_true rfl) (Nat.le_of_ble_eq_true rfl) (Nat.le_of_ble_eq_true rfl) (Nat.le_of_ble_eq_true rfl) (kk := fun s232 Ws232 qs232 => ?_)
                    have h := h s232 Ws232 (rNMp.keep qs232.1 rfl rfl rfl rfl rfl) (PNp.keep qs232.1 rfl rfl rfl rfl rfl) (qs232.1.R rfl) (qs232.1.R rfl) (qs232.1.F rfl) (qs232.1.F rfl) (qs232.1.F rfl) (qs232.1.F rfl) (qs232.1.F rfl) (qs232.1.F rfl) (qs232.1.F rfl) (qs232.1.F rfl) (qs232.1.F rfl) (qs232.1.F rfl) (qs232.1.F rfl) (qs232.1.F rfl) (qs232.1.F rfl) (qs232.1.F rfl) (qs232.1.F rfl) (fun i => qs232.1.A (f := 27) (by decide) rfl) (fun i => qs232.1.A (f := 34) (by decide) rfl) (fun i => qs232.1.A (f := 35) (by decide) rfl) (fun i => qs232.1.A (f := 40) (by decide) rfl) (qs232.1.FG g0 rfl) (qs232.1.FG g0 rfl) (qs232.1.FG g0 rfl) (qs232.1.FG g0 rfl) (qs232.1.FG g0 rfl) (fun i => qs232.1.AG (f := 10) g0 (by decide) rfl) (fun i => qs232.1.AG (f := 11) g0 (by decide) rfl) (fun _ _ hp => qs232.1.FL hp) (RG.keep (c0 := 0) qs232.1 rfl rfl rfl rfl rfl rfl rfl rfl rfl rfl rfl rfl rfl rfl rfl rfl rfl rfl) qs232.2
                    refine z_iconst hC (pc := 235) (v := Int32.ofInt 0) dX14_readValue_235 (by decide) ?_
                    exact y_reti hR dX14_readValue_236 rfl (r_lit rfl) Ws232 (Nat.le_of_ble_eq_true rfl) (Nat.le_of_ble_eq_true rfl) ⟨(rKeep.tr (rKeep.tr rKeep.rf qs1.1 rfl rfl rfl rfl rfl) qs232.1 rfl rfl rfl rfl rfl), h⟩
                  · have h := hF c
                    refine z_aload_n hC (pc := 199) 1 dX14_readValue_199 rfl rfl ?_
                    refine z_dup hC (pc := 200) dX14_readValue_200 rfl ?_
                    refine y_get hC (pc := 201) zf14 rOb_0 17 (v := iv (rF s1 0 17)) dX14_readValue_201 zw2484 (rv_i (Or.inl rfl) rfl) (kk := ?_)
                    refine z_iconst hC (pc := 204) (v := Int32.ofInt 1) dX14_readValue_204 (by decide) ?_
                    refine y_iadd hC (pc := 205) (v := ((rF s1 0 17) + 1)) dX14_readValue_205 rfl ?_
                    obtain ⟨r35, h⟩ := h
                    refine y_putI hC (pc := 206) zf14 rOb_0 17 (x := ((rF s1 0 17) + 1)) dX14_readValue_206 zw2484 (Or.inl rfl) rfl rfl (kk := ?_)
                    have W36 := Ws1.sF (q := 0) (f := 17) (x := ((rF s1 0 17) + 1)) r35
                    refine z_aload_n hC (pc := 209) 1 dX14_readValue_209 rfl rfl ?_
                    refine z_ldcSw hC (pc := 210) dX14_readValue_210 zS_35 ?_
                    obtain ⟨p37, h⟩ := h
                    refine y_callVv hC (pc := 213) (As := [.ref (G.2.2 71)]) (kX14_sign l G κ (sF s1 0 17 ((rF s1 0 17) + 1)) (G.2.2 71) 1 W36 (rSt_35 G) p37) dmX14_sign zf14 rOb_0 dX14_readValue_213 zw3034 rfl rfl (Nat.le_of_ble_eq_true rfl) (Nat.le_of_ble_eq_true rfl) (Nat.le_of_ble_eq_true rfl) (Nat.le_of_ble_eq_true rfl) (Nat.le_of_ble_eq_true rfl) (kk := fun s213 Ws213 qs213 => ?_)
                    have h := h s213 Ws213 (rNMp.keep qs213.1 rfl rfl rfl rfl rfl) (PNp.keep qs213.1 rfl rfl rfl rfl rfl) (qs213.1.R rfl) (qs213.1.R rfl) (qs213.1.F rfl) (qs213.1.F rfl) (qs213.1.F rfl) (qs213.1.F rfl) (qs213.1.F rfl) (qs213.1.F rfl) (qs213.1.F rfl) (qs213.1.F rfl) (qs213.1.F rfl) (qs213.1.F rfl) (qs213.1.F rfl) (qs213.1.F rfl) (qs213.1.F rfl) (qs213.1.F rfl) (fun i => qs213.1.A (f := 27) (by decide) rfl) (fun i => qs213.1.A (f := 34) (by decide) rfl) (fun i => qs213.1.A (f := 35) (by decide) rfl) (fun i => qs213.1.A (f := 40) (by decide) rfl) (qs213.1.FG g0 rfl) (qs213.1.FG g0 rfl) (qs213.1.FG g0 rfl) (qs213.1.FG g0 rfl) (qs213.1.FG g0 rfl) (fun i => qs213.1.AG (f := 10) g0 (by decide) rfl) (fun i => qs213.1.AG (f := 11) g0 (by decide) rfl) (fun _ _ hp => qs213.1.FL hp) (RG.keep (c0 := 0) qs213.1 rfl rfl rfl rfl rfl rfl rfl rfl rfl rfl rfl rfl rfl rfl rfl rfl rfl rfl) qs213.2
                    refine z_aload_n hC (pc := 216) 1 dX14_readValue_216 rfl rfl ?_
                    refine z_bipush hC (pc := 217) (v := Int32.ofInt 34) dX14_readValue_217 (by decide) ?_
                    refine z_iconst hC (pc := 219) (v := Int32.ofInt 0) dX14_readValue_219 (by decide) ?_
                    refine z_iconst hC (pc := 220) (v := Int32.ofInt 0) dX14_readValue_220 (by decide) ?_
                    refine z_iload_n hC (pc := 221) 0 dX14_readValue_221 rfl rfl ?_
                    obtain ⟨p38, h⟩ := h
                    refine y_callVi hC (pc := 222) (As := [iv 34, iv 0, iv 0, iv (rF s1 0 17)]) (kX14_node_t l G κ s213 34 0 0 (rF s1 0 17) gg Ws213 (r_lit rfl) (r_lit rfl) (r_lit rfl) (Ws1.f _ _) p38) dmX14_node zf14 rOb_0 dX14_readValue_222 zw3170 rfl rfl (Nat.le_of_ble_eq_true rfl) (Nat.le_of_ble_eq_true rfl) (Nat.le_of_ble_eq_true rfl) (Nat.le_of_ble_eq_true rfl) (Nat.le_of_ble_eq_true rfl) (kk := fun v222 s222 hv222 Ws222 qs222 => ?_)
                    have h := h v222 s222 hv222 Ws222 (rNMp.keep qs222.1 rfl rfl rfl rfl rfl) (qs222.1.R rfl) (qs222.1.R rfl) (qs222.1.F rfl) (qs222.1.F rfl) (qs222.1.F rfl) (qs222.1.F rfl) (qs222.1.F rfl) (qs222.1.F rfl) (qs222.1.F rfl) (qs222.1.F rfl) (qs222.1.F rfl) (qs222.1.F rfl) (qs222.1.F rfl) (qs222.1.F rfl) (qs222.1.F rfl) (qs222.1.F rfl) (qs222.1.F rfl) (qs222.1.F rfl) (fun i => qs222.1.A (f := 27) (by decide) rfl) (fun i => qs222.1.A (f := 34) (by decide) rfl) (fun i => qs222.1.A (f := 35) (by decide) rfl) (fun i => qs222.1.A (f := 40) (by decide) rfl) (qs222.1.FG g0 rfl) (qs222.1.FG g0 rfl) (qs222.1.FG g0 rfl) (qs222.1.FG g0 rfl) (fun i => qs222.1.AG (f := 10) g0 (by decide) rfl) (fun i => qs222.1.AG (f := 11) g0 (by decide) rfl) (fun _ _ hp => qs222.1.FL hp) (fz_keep qs222.1 rfl) qs222.2
                    exact y_reti hR dX14_readValue_225 rfl hv222 Ws222 (Nat.le_of_ble_eq_true rfl) (Nat.le_of_ble_eq_true rfl) ⟨(rKeep.tr (rKeep.tr (rKeep.tr (rKeep.tr rKeep.rf qs1.1 rfl rfl rfl rfl rfl) (rKeep.sF0 (f := 17)) rfl rfl rfl rfl rfl) qs213.1 rfl rfl rfl rfl rfl) qs222.1 rfl rfl rfl rfl rfl), h⟩
              · have h := hF c
                refine z_aload_n hC (pc := 162) 1 dX14_readValue_162 rfl rfl ?_
                refine z_dup hC (pc := 163) dX14_readValue_163 rfl ?_
                refine y_get hC (pc := 164) zf14 rOb_0 17 (v := iv (rF s1 0 17)) dX14_readValue_164 zw2484 (rv_i (Or.inl rfl) rfl) (kk := ?_)
                refine z_iconst hC (pc := 167) (v := Int32.ofInt 3) dX14_readValue_167 (by decide) ?_
                refine y_iadd hC (pc := 168) (v := ((rF s1 0 17) + 3)) dX14_readValue_168 rfl ?_
                obtain ⟨r39, h⟩ := h
                refine y_putI hC (pc := 169) zf14 rOb_0 17 (x := ((rF s1 0 17) + 3)) dX14_readValue_169 zw2484 (Or.inl rfl) rfl rfl (kk := ?_)
                have W40 := Ws1.sF (q := 0) (f := 17) (x := ((rF s1 0 17) + 3)) r39
                refine z_aload_n hC (pc := 172) 1 dX14_readValue_172 rfl rfl ?_
                refine z_bipush hC (pc := 173) (v := Int32.ofInt 56) dX14_readValue_173 (by decide) ?_
                refine z_iconst hC (pc := 175) (v := Int32.ofInt 0) dX14_readValue_175 (by decide) ?_
                refine z_iconst hC (pc := 176) (v := Int32.ofInt 0) dX14_readValue_176 (by decide) ?_
                refine z_iload_n hC (pc := 177) 0 dX14_readValue_177 rfl rfl ?_
                obtain ⟨p41, h⟩ := h
                refine y_callVi hC (pc := 178) (As := [iv 56, iv 0, iv 0, iv (rF s1 0 17)]) (kX14_node_t l G κ (sF s1 0 17 ((rF s1 0 17) + 3)) 56 0 0 (rF s1 0 17) gg W40 (r_lit rfl) (r_lit rfl) (r_lit rfl) (Ws1.f _ _) p41) dmX14_node zf14 rOb_0 dX14_readValue_178 zw3170 rfl rfl (Nat.le_of_ble_eq_true rfl) (Nat.le_of_ble_eq_true rfl) (Nat.le_of_ble_eq_true rfl) (Nat.le_of_ble_eq_true rfl) (Nat.le_of_ble_eq_true rfl) (kk := fun v178 s178 hv178 Ws178 qs178 => ?_)
                have h := h v178 s178 hv178 Ws178 (rNMp.keep qs178.1 rfl rfl rfl rfl rfl) (qs178.1.R rfl) (qs178.1.R rfl) (qs178.1.F rfl) (qs178.1.F rfl) (qs178.1.F rfl) (qs178.1.F rfl) (qs178.1.F rfl) (qs178.1.F rfl) (qs178.1.F rfl) (qs178.1.F rfl) (qs178.1.F rfl) (qs178.1.F rfl) (qs178.1.F rfl) (qs178.1.F rfl) (qs178.1.F rfl) (qs178.1.F rfl) (qs178.1.F rfl) (qs178.1.F rfl) (fun i => qs178.1.A (f := 27) (by decide) rfl) (fun i => qs178.1.A (f := 34) (by decide) rfl) (fun i => qs178.1.A (f := 35) (by decide) rfl) (fun i => qs178.1.A (f := 40) (by decide) rfl) (qs178.1.FG g0 rfl) (qs178.1.FG g0 rfl) (qs178.1.FG g0 rfl) (qs178.1.FG g0 rfl) (fun i => qs178.1.AG (f := 10) g0 (by decide) rfl) (fun i => qs178.1.AG (f := 11) g0 (by decide) rfl) (fun _ _ hp => qs178.1.FL hp) (fz_keep qs178.1 rfl) qs178.2
                exact y_reti hR dX14_readValue_181 rfl hv178 Ws178 (Nat.le_of_ble_eq_true rfl) (Nat.le_of_ble_eq_true rfl) ⟨(rKeep.tr (rKeep.tr (rKeep.tr rKeep.rf qs1.1 rfl rfl rfl rfl rfl) (rKeep.sF0 (f := 17)) rfl rfl rfl rfl rfl) qs178.1 rfl rfl rfl rfl rfl), h⟩
          · have h := hF c
            refine z_aload_n hC (pc := 102) 1 dX14_readValue_102 rfl rfl ?_
            refine z_aload_n hC (pc := 103) 1 dX14_readValue_103 rfl rfl ?_
            refine z_ldcSw hC (pc := 104) dX14_readValue_104 zS_26 ?_
            obtain ⟨p42, h⟩ := h
            refine y_callVi hC (pc := 107) (As := [.ref (G.2.2 53)]) (kX14_isFileWord_f l G κ s1 (G.2.2 53) 4 Ws1 (rSt_26 G) p42) dmX14_isFileWord zf14 rOb_0 dX14_readValue_107 zw3005 rfl rfl (Nat.le_of_ble_eq_true rfl) (Nat.le_of_ble_eq_true rfl) (Nat.le_of_ble_eq_true rfl) (Nat.le_of_ble_eq_true rfl) (Nat.le_of_ble_eq_true rfl) (kk := fun v107 s107 hv107 Ws107 qs107 => ?_)
            obtain ⟨es107, qs107⟩ := qs107
            have es107 := es107.symm
            subst es107
            have h := h v107 hv107 qs107
            obtain ⟨hT, hF⟩ := h
            refine y_if_eq hC (pc := 110) 118 hv107 dX14_readValue_110 (by decide) (fun c => ?_) (fun c => ?_)
            · have h := hT c
              refine z_bipush hC (pc := 118) (v := Int32.ofInt 32) dX14_readValue_118 (by decide) ?_
              refine z_iconst hC (pc := 120) (v := Int32.ofInt 0) dX14_readValue_120 (by decide) ?_
              refine z_iconst hC (pc := 121) (v := Int32.ofInt 0) dX14_readValue_121 (by decide) ?_
              refine z_iload_n hC (pc := 122) 0 dX14_readValue_122 rfl rfl ?_
              obtain ⟨p43, h⟩ := h
              refine y_callVi hC (pc := 123) (As := [iv 32, iv 0, iv 0, iv (rF s1 0 17)]) (kX14_node_t l G κ s1 32 0 0 (rF s1 0 17) gg Ws1 (r_lit rfl) (r_lit rfl) (r_lit rfl) (Ws1.f _ _) p43) dmX14_node zf14 rOb_0 dX14_readValue_123 zw3170 rfl rfl (Nat.le_of_ble_eq_true rfl) (Nat.le_of_ble_eq_true rfl) (Nat.le_of_ble_eq_true rfl) (Nat.le_of_ble_eq_true rfl) (Nat.le_of_ble_eq_true rfl) (kk := fun v123 s123 hv123 Ws123 qs123 => ?_)
              have h := h v123 s123 hv123 Ws123 (rNMp.keep qs123.1 rfl rfl rfl rfl rfl) (qs123.1.R rfl) (qs123.1.R rfl) (qs123.1.F rfl) (qs123.1.F rfl) (qs123.1.F rfl) (qs123.1.F rfl) (qs123.1.F rfl) (qs123.1.F rfl) (qs123.1.F rfl) (qs123.1.F rfl) (qs123.1.F rfl) (qs123.1.F rfl) (qs123.1.F rfl) (qs123.1.F rfl) (qs123.1.F rfl) (qs123.1.F rfl) (qs123.1.F rfl) (qs123.1.F rfl) (fun i => qs123.1.A (f := 27) (by decide) rfl) (fun i => qs123.1.A (f := 34) (by decide) rfl) (fun i => qs123.1.A (f := 35) (by decide) rfl) (fun i => qs123.1.A (f := 40) (by decide) rfl) (qs123.1.FG g0 rfl) (qs123.1.FG g0 rfl) (qs123.1.FG g0 rfl) (qs123.1.FG g0 rfl) (fun i => qs123.1.AG (f := 10) g0 (by decide) rfl) (fun i => qs123.1.AG (f := 11) g0 (by decide) rfl) (fun _ _ hp => qs123.1.FL hp) (fz_keep qs123.1 rfl) qs123.2
              refine z_istore_n hC (pc := 126) (lv' := [(3, iv v123), (2, iv (rF s1 0 17)), (0, .ref (κ 0)), (1, iv x1)]) dX14_readValue_126 rfl (by decide) rfl ?_
              refine z_aload_n hC (pc := 127) 2 dX14_readValue_127 rfl rfl ?_
              refine z_aload_n hC (pc := 128) 2 dX14_readValue_128 rfl rfl ?_
              obtain ⟨g44, h⟩ := h
              refine y_get hC (pc := 129) zf14 rOb_0 15 (v := .ref (κ (rR σ 15))) dX14_readValue_129 zw2482 (rv_b rfl ((qs123.1.R rfl).trans ((qs1.1.R rfl).trans rfl)) g44) (kk := ?_)
              refine z_aload_n hC (pc := 132) 2 dX14_readValue_132 rfl rfl ?_
              refine y_get hC (pc := 133) zf14 rOb_0 16 (v := iv (rF s123 0 16)) dX14_readValue_133 zw2483 (rv_i (Or.inl rfl) rfl) (kk := ?_)
              have h := h (Ws123.f _ _)
              refine z_aload_n hC (pc := 136) 2 dX14_readValue_136 rfl rfl ?_
              refine y_get hC (pc := 137) zf14 rOb_0 17 (v := iv (rF s1 0 17)) dX14_readValue_137 zw2484 (rv_i (Or.inl rfl) ((qs123.1.F rfl).trans rfl)) (kk := ?_)
              obtain ⟨p45, h⟩ := h
              refine y_callSi hC (pc := 140) (As := [.ref (κ (rR σ 15)), iv (rF s123 0 16), iv (rF s1 0 17)]) (kX14_wordEnd_t l G κ s123 (rR σ 15) 4000 (rF s123 0 16) (rF s1 0 17) Ws123 (rAr_f g44) (Ws123.f _ _) (Ws1.f _ _) p45) dmX14_wordEnd dX14_readValue_140 zw3009 rfl rfl (Nat.le_of_ble_eq_true rfl) (Nat.le_of_ble_eq_true rfl) (Nat.le_of_ble_eq_true rfl) (Nat.le_of_ble_eq_true rfl) (Nat.le_of_ble_eq_true rfl) (kk := fun v140 s140 hv140 Ws140 qs140 => ?_)
              obtain ⟨es140, qs140⟩ := qs140
              have es140 := es140.symm
              subst es140
              have h := h v140 hv140 qs140
              refine y_putI hC (pc := 143) zf14 rOb_0 17 (x := v140) dX14_readValue_143 zw2484 (Or.inl rfl) rfl rfl (kk := ?_)
              have W46 := Ws123.sF (q := 0) (f := 17) (x := v140) hv140
              refine z_iload_n hC (pc := 146) 0 dX14_readValue_146 rfl rfl ?_
              exact y_reti hR dX14_readValue_147 rfl hv123 W46 (Nat.le_of_ble_eq_true rfl) (Nat.le_of_ble_eq_true rfl) ⟨(rKeep.tr (rKeep.tr (rKeep.tr rKeep.rf qs1.1 rfl rfl rfl rfl rfl) qs123.1 rfl rfl rfl rfl rfl) (rKeep.sF0 (f := 17)) rfl rfl rfl rfl rfl), h⟩
            · have h := hF c
              refine z_bipush hC (pc := 113) (v := Int32.ofInt 31) dX14_readValue_113 (by decide) ?_
              refine z_goto hC (pc := 115) 120 dX14_readValue_115 (by decide) ?_
              refine z_iconst hC (pc := 120) (v := Int32.ofInt 0) dX14_readValue_120 (by decide) ?_
              refine z_iconst hC (pc := 121) (v := Int32.ofInt 0) dX14_readValue_121 (by decide) ?_
              refine z_iload_n hC (pc := 122) 0 dX14_readValue_122 rfl rfl ?_
              obtain ⟨p47, h⟩ := h
              refine y_callVi hC (pc := 123) (As := [iv 31, iv 0, iv 0, iv (rF s1 0 17)]) (kX14_node_t l G κ s1 31 0 0 (rF s1 0 17) gg Ws1 (r_lit rfl) (r_lit rfl) (r_lit rfl) (Ws1.f _ _) p47) dmX14_node zf14 rOb_0 dX14_readValue_123 zw3170 rfl rfl (Nat.le_of_ble_eq_true rfl) (Nat.le_of_ble_eq_true rfl) (Nat.le_of_ble_eq_true rfl) (Nat.le_of_ble_eq_true rfl) (Nat.le_of_ble_eq_true rfl) (kk := fun v123 s123 hv123 Ws123 qs123 => ?_)
              have h := h v123 s123 hv123 Ws123 (rNMp.keep qs123.1 rfl rfl rfl rfl rfl) (qs123.1.R rfl) (qs123.1.R rfl) (qs123.1.F rfl) (qs123.1.F rfl) (qs123.1.F rfl) (qs123.1.F rfl) (qs123.1.F rfl) (qs123.1.F rfl) (qs123.1.F rfl) (qs123.1.F rfl) (qs123.1.F rfl) (qs123.1.F rfl) (qs123.1.F rfl) (qs123.1.F rfl) (qs123.1.F rfl) (qs123.1.F rfl) (qs123.1.F rfl) (qs123.1.F rfl) (fun i => qs123.1.A (f := 27) (by decide) rfl) (fun i => qs123.1.A (f := 34) (by decide) rfl) (fun i => qs123.1.A (f := 35) (by decide) rfl) (fun i => qs123.1.A (f := 40) (by decide) rfl) (qs123.1.FG g0 rfl) (qs123.1.FG g0 rfl) (qs123.1.FG g0 rfl) (qs123.1.FG g0 rfl) (fun i => qs123.1.AG (f := 10) g0 (by decide) rfl) (fun i => qs123.1.AG (f := 11) g0 (by decide) rfl) (fun _ _ hp => qs123.1.FL hp) (fz_keep qs123.1 rfl) qs123.2
              refine z_istore_n hC (pc := 126) (lv' := [(3, iv v123), (2, iv (rF s1 0 17)), (0, .ref (κ 0)), (1, iv x1)]) dX14_readValue_126 rfl (by decide) rfl ?_
              refine z_aload_n hC (pc := 127) 2 dX14_readValue_127 rfl rfl ?_
              refine z_aload_n hC (pc := 128) 2 dX14_readValue_128 rfl rfl ?_
              obtain ⟨g48, h⟩ := h
              refine y_get hC (pc := 129) zf14 rOb_0 15 (v := .ref (κ (rR σ 15))) dX14_readValue_129 zw2482 (rv_b rfl ((qs123.1.R rfl).trans ((qs1.1.R rfl).trans rfl)) g48) (kk := ?_)
              refine z_aload_n hC (pc := 132) 2 dX14_readValue_132 rfl rfl ?_
              refine y_get hC (pc := 133) zf14 rOb_0 16 (v := iv (rF s123 0 16)) dX14_readValue_133 zw2483 (rv_i (Or.inl rfl) rfl) (kk := ?_)
              have h := h (Ws123.f _ _)
              refine z_aload_n hC (pc := 136) 2 dX14_readValue_136 rfl rfl ?_
              refine y_get hC (pc := 137) zf14 rOb_0 17 (v := iv (rF s1 0 17)) dX14_readValue_137 zw2484 (rv_i (Or.inl rfl) ((qs123.1.F rfl).trans rfl)) (kk := ?_)
              obtain ⟨p49, h⟩ := h
              refine y_callSi hC (pc := 140) (As := [.ref (κ (rR σ 15)), iv (rF s123 0 16), iv (rF s1 0 17)]) (kX14_wordEnd_t l G κ s123 (rR σ 15) 4000 (rF s123 0 16) (rF s1 0 17) Ws123 (rAr_f g48) (Ws123.f _ _) (Ws1.f _ _) p49) dmX14_wordEnd dX14_readValue_140 zw3009 rfl rfl (Nat.le_of_ble_eq_true rfl) (Nat.le_of_ble_eq_true rfl) (Nat.le_of_ble_eq_true rfl) (Nat.le_of_ble_eq_true rfl) (Nat.le_of_ble_eq_true rfl) (kk := fun v140 s140 hv140 Ws140 qs140 => ?_)
              obtain ⟨es140, qs140⟩ := qs140
              have es140 := es140.symm
              subst es140
              have h := h v140 hv140 qs140
              refine y_putI hC (pc := 143) zf14 rOb_0 17 (x := v140) dX14_readValue_143 zw2484 (Or.inl rfl) rfl rfl (kk := ?_)
              have W50 := Ws123.sF (q := 0) (f := 17) (x := v140) hv140
              refine z_iload_n hC (pc := 146) 0 dX14_readValue_146 rfl rfl ?_
              exact y_reti hR dX14_readValue_147 rfl hv123 W50 (Nat.le_of_ble_eq_true rfl) (Nat.le_of_ble_eq_true rfl) ⟨(rKeep.tr (rKeep.tr (rKeep.tr rKeep.rf qs1.1 rfl rfl rfl rfl rfl) qs123.1 rfl rfl rfl rfl rfl) (rKeep.sF0 (f := 17)) rfl rfl rfl rfl rfl), h⟩
      · have h := hF c
        refine z_aload_n hC (pc := 77) 1 dX14_readValue_77 rfl rfl ?_
        obtain ⟨g51, h⟩ := h
        obtain ⟨p52, h⟩ := h
        refine y_callVi hC (pc := 78) (As := []) (kX14_readFileSub l G κ s1 gg U g51 Ws1  p52) dmX14_readFileSub zf14 rOb_0 dX14_readValue_78 zw3332 rfl rfl (Nat.le_of_ble_eq_true rfl) (Nat.le_of_ble_eq_true rfl) (Nat.le_of_ble_eq_true rfl) (Nat.le_of_ble_eq_true rfl) (Nat.le_of_ble_eq_true rfl) (kk := fun v78 s78 hv78 Ws78 qs78 => ?_)
        have h := h v78 s78 hv78 Ws78 (qs78.1.R rfl) (qs78.1.R rfl) (qs78.1.F rfl) (qs78.1.F rfl) (qs78.1.F rfl) (qs78.1.F rfl) (qs78.1.F rfl) (qs78.1.F rfl) (fun _ _ hp => qs78.1.FL hp) qs78.2
        exact y_reti hR dX14_readValue_81 rfl hv78 Ws78 (Nat.le_of_ble_eq_true rfl) (Nat.le_of_ble_eq_true rfl) ⟨(rKeep.tr (rKeep.tr rKeep.rf qs1.1 rfl rfl rfl rfl rfl) qs78.1 rfl rfl rfl rfl rfl), h⟩
    · have h := hF c
      refine z_aload_n hC (pc := 31) 1 dX14_readValue_31 rfl rfl ?_
      obtain ⟨p53, h⟩ := h
      refine y_callVv hC (pc := 32) (As := []) (kX14_fileString_f l G κ s1  Ws1  p53) dmX14_fileString zf14 rOb_0 dX14_readValue_32 zw3027 rfl rfl (Nat.le_of_ble_eq_true rfl) (Nat.le_of_ble_eq_true rfl) (Nat.le_of_ble_eq_true rfl) (Nat.le_of_ble_eq_true rfl) (Nat.le_of_ble_eq_true rfl) (kk := fun s32 Ws32 qs32 => ?_)
      have h := h s32 Ws32 (rNMp.keep qs32.1 rfl rfl rfl rfl rfl) (PNp.keep qs32.1 rfl rfl rfl rfl rfl) (qs32.1.R rfl) (qs32.1.R rfl) (qs32.1.F rfl) (qs32.1.F rfl) (qs32.1.F rfl) (qs32.1.F rfl) (qs32.1.F rfl) (qs32.1.F rfl) (qs32.1.F rfl) (qs32.1.F rfl) (qs32.1.F rfl) (qs32.1.F rfl) (qs32.1.F rfl) (fun i => qs32.1.A (f := 27) (by decide) rfl) (fun i => qs32.1.A (f := 34) (by decide) rfl) (fun i => qs32.1.A (f := 35) (by decide) rfl) (fun i => qs32.1.A (f := 40) (by decide) rfl) (qs32.1.FG g0 rfl) (qs32.1.FG g0 rfl) (qs32.1.FG g0 rfl) (qs32.1.FG g0 rfl) (qs32.1.FG g0 rfl) (fun i => qs32.1.AG (f := 10) g0 (by decide) rfl) (fun i => qs32.1.AG (f := 11) g0 (by decide) rfl) (fun _ _ hp => qs32.1.FL hp) (RG.keep (c0 := 0) qs32.1 rfl rfl rfl rfl rfl rfl rfl rfl rfl rfl rfl rfl rfl rfl rfl rfl rfl rfl) qs32.2
      refine z_aload_n hC (pc := 35) 1 dX14_readValue_35 rfl rfl ?_
      refine y_get hC (pc := 36) zf14 rOb_0 10 (v := iv (rF s32 0 10)) dX14_readValue_36 zw2478 (rv_i (Or.inl rfl) rfl) (kk := ?_)
      have h := h (Ws32.f _ _)
      obtain ⟨hT, hF⟩ := h
      refine y_if_ne hC (pc := 39) 62 (Ws32.f _ _) dX14_readValue_39 (by decide) (fun c => ?_) (fun c => ?_)
      · have h := hT c
        refine z_iconst hC (pc := 62) (v := Int32.ofInt 0) dX14_readValue_62 (by decide) ?_
        exact y_reti hR dX14_readValue_63 rfl (r_lit rfl) Ws32 (Nat.le_of_ble_eq_true rfl) (Nat.le_of_ble_eq_true rfl) ⟨(rKeep.tr (rKeep.tr rKeep.rf qs1.1 rfl rfl rfl rfl rfl) qs32.1 rfl rfl rfl rfl rfl), h⟩
      · have h := hF c
        refine z_aload_n hC (pc := 42) 1 dX14_readValue_42 rfl rfl ?_
        refine z_aload_n hC (pc := 43) 1 dX14_readValue_43 rfl rfl ?_
        obtain ⟨g54, h⟩ := h
        refine y_get hC (pc := 44) zf14 rOb_0 15 (v := .ref (κ (rR σ 15))) dX14_readValue_44 zw2482 (rv_b rfl ((qs32.1.R rfl).trans ((qs1.1.R rfl).trans rfl)) g54) (kk := ?_)
        refine z_aload_n hC (pc := 47) 1 dX14_readValue_47 rfl rfl ?_
        refine y_get hC (pc := 48) zf14 rOb_0 22 (v := iv (rF s32 0 22)) dX14_readValue_48 zw2489 (rv_i (Or.inl rfl) rfl) (kk := ?_)
        have h := h (Ws32.f _ _)
        refine z_aload_n hC (pc := 51) 1 dX14_readValue_51 rfl rfl ?_
        refine y_get hC (pc := 52) zf14 rOb_0 23 (v := iv (rF s32 0 23)) dX14_readValue_52 zw2490 (rv_i (Or.inl rfl) rfl) (kk := ?_)
        have h := h (Ws32.f _ _)
        refine z_iload_n hC (pc := 55) 0 dX14_readValue_55 rfl rfl ?_
        obtain ⟨p55, h⟩ := h
        refine y_callVi hC (pc := 56) (As := [.ref (κ (rR σ 15)), iv (rF s32 0 22), iv (rF s32 0 23), iv (rF s1 0 17)]) (kX14_keepString_t l G κ s32 (rR σ 15) 4000 (rF s32 0 22) (rF s32 0 23) (rF s1 0 17) gg Ws32 (rAr_f g54) (Ws32.f _ _) (Ws32.f _ _) (Ws1.f _ _) p55) dmX14_keepString zf14 rOb_0 dX14_readValue_56 zw3214 rfl rfl (Nat.le_of_ble_eq_true rfl) (Nat.le_of_ble_eq_true rfl) (Nat.le_of_ble_eq_true rfl) (Nat.le_of_ble_eq_true rfl) (Nat.le_of_ble_eq_true rfl) (kk := fun v56 s56 hv56 Ws56 qs56 => ?_)
        have h := h v56 s56 hv56 Ws56 (qs56.1.R rfl) (qs56.1.R rfl) (qs56.1.F rfl) (qs56.1.F rfl) (qs56.1.F rfl) (qs56.1.F rfl) (qs56.1.F rfl) (qs56.1.F rfl) (qs56.1.F rfl) (qs56.1.F rfl) (qs56.1.F rfl) (qs56.1.F rfl) (qs56.1.F rfl) (qs56.1.F rfl) (qs56.1.F rfl) (qs56.1.F rfl) (qs56.1.F rfl) (qs56.1.F rfl) (fun i => qs56.1.A (f := 27) (by decide) rfl) (fun i => qs56.1.A (f := 34) (by decide) rfl) (fun i => qs56.1.A (f := 35) (by decide) rfl) (fun i => qs56.1.A (f := 40) (by decide) rfl) (qs56.1.FG g0 rfl) (qs56.1.FG g0 rfl) (qs56.1.FG g0 rfl) (fun i => qs56.1.AG (f := 10) g0 (by decide) rfl) (fun i => qs56.1.AG (f := 11) g0 (by decide) rfl) (fun _ _ hp => qs56.1.FL hp) (fz_keep qs56.1 rfl) qs56.2
        refine z_goto hC (pc := 59) 63 dX14_readValue_59 (by decide) ?_
        exact y_reti hR dX14_readValue_63 rfl hv56 Ws56 (Nat.le_of_ble_eq_true rfl) (Nat.le_of_ble_eq_true rfl) ⟨(rKeep.tr (rKeep.tr (rKeep.tr rKeep.rf qs1.1 rfl rfl rfl rfl rfl) qs32.1 rfl rfl rfl rfl rfl) qs56.1 rfl rfl rfl rfl rfl), h⟩
  · have h := hF c
    refine z_iconst hC (pc := 11) (v := Int32.ofInt 0) dX14_readValue_11 (by decide) ?_
    exact y_reti hR dX14_readValue_12 rfl (r_lit rfl) Ws1 (Nat.le_of_ble_eq_true rfl) (Nat.le_of_ble_eq_true rfl) ⟨(rKeep.tr rKeep.rf qs1.1 rfl rfl rfl rfl rfl), h⟩
theorem kX14_readValue (l : Launch) (G : zG) (κ : Nat → Nat) (σ : rS) (x1 : Int) (gg : Nat) (U : Int) (g : Nat → Int → Int) (hwf : rWF σ) (hx1 : rng x1) (hp : pre_X14_readValue σ x1 gg U g) : rMi l G κ yX14_readValue cX14_readValue 4 .int 462 18050 [.ref (κ 0), iv x1] σ (fun x s => rKeep 0x6c3f3e21c00 0x4100001280 0x13c0c000000 0x3ee0000d7f 0 σ s ∧ post_X14_readValue σ x1 gg U g x s) := wX14_readValue l G κ σ x1 gg U g hwf hx1 (post_X14_readValue σ x1 gg U g) (vX14_readValue σ x1 gg U g hwf hx1 hp) 
