theorem EL.pos {σ : rS} {k : Nat} {B : GBt} (P : BPre σ k B) (hb : rF σ 0 42 < rF σ 0 38) (hq : nwp (rA σ 1034 (rF σ 0 42))) : 0 < rA σ 1035 (rF σ 0 42) ∧ rA σ 1035 (rF σ 0 42) < rF σ k 7 := by
  obtain ⟨g, S, n1, n2, lo, hi⟩ := B
  obtain ⟨G, W, T, l20⟩ := P
  obtain ⟨a1, a2, a3, a4, a5, a6, a7⟩ := W
  obtain ⟨q1, q2, _⟩ := a7 _ (Int.le_refl _) hb hq
  simp only at a1 a2 a3 q1 q2
  omega
theorem zw2509 : Cond.fieldLink "TemplateHouseModel" 626 "TemplateHouseModel" "at0" "I" ∈ zT := zsub11 109 (by decide +kernel) (by decide +kernel)
theorem zw3307 : Cond.methodLink "TemplateHouseModel" 689 ⟨"TemplateHouseModel", "element", "(I)I"⟩ ∈ zT := zsub14 187 (by decide +kernel) (by decide +kernel)
theorem zw3303 : Cond.methodLink "TemplateHouseModel" 629 ⟨"TemplateHouseModel", "build", "()I"⟩ ∈ zT := zsub14 183 (by decide +kernel) (by decide +kernel)
theorem zw3306 : Cond.code ⟨"TemplateHouseModel", "build", "()I"⟩ prog_15_method_58_code 6 (Option.some Jvm.ClassFile.FieldType.int) ∈ zT := zsub14 186 rfl rfl
theorem zw3305 : Cond.instanceMethod ⟨"TemplateHouseModel", "build", "()I"⟩ ∈ zT := zsub14 185 (by decide +kernel) (by decide +kernel)
theorem zwp155 : Cond.selects "TemplateHouseModel" ⟨"TemplateHouseModel", "build", "()I"⟩ ⟨"TemplateHouseModel", "build", "()I"⟩ ∈ zT := zin 155 (by decide +kernel) (by decide +kernel)
theorem zw3310 : Cond.code ⟨"TemplateHouseModel", "element", "(I)I"⟩ prog_15_method_59_code 6 (Option.some Jvm.ClassFile.FieldType.int) ∈ zT := zsub14 190 rfl rfl
theorem zw3309 : Cond.instanceMethod ⟨"TemplateHouseModel", "element", "(I)I"⟩ ∈ zT := zsub14 189 (by decide +kernel) (by decide +kernel)
theorem zwp172 : Cond.selects "TemplateHouseModel" ⟨"TemplateHouseModel", "element", "(I)I"⟩ ⟨"TemplateHouseModel", "element", "(I)I"⟩ ∈ zT := zin 172 (by decide +kernel) (by decide +kernel)
abbrev cX14_build : ByteArray := prog_15_method_58_code
abbrev yX14_build : MethodName := ⟨"TemplateHouseModel", "build", "()I"⟩
theorem dmX14_build : zDv yX14_build cX14_build 6 (some .int) 0 := ⟨⟨⟨by decide +kernel, by decide +kernel, by decide +kernel⟩, zw3306, zw14⟩, zw3305, zwp155⟩
abbrev cX14_element : ByteArray := prog_15_method_59_code
abbrev yX14_element : MethodName := ⟨"TemplateHouseModel", "element", "(I)I"⟩
theorem dmX14_element : zDv yX14_element cX14_element 6 (some .int) 1 := ⟨⟨⟨by decide +kernel, by decide +kernel, by decide +kernel⟩, zw3310, zw14⟩, zw3309, zwp172⟩
theorem dX14_build_0 : decode cX14_build 0 = .ok (.aload_n 0, 1) := by decide +kernel
theorem dX14_build_1 : decode cX14_build 1 = .ok (.bipush 9, 2) := by decide +kernel
theorem dX14_build_3 : decode cX14_build 3 = .ok (.iconst 0, 1) := by decide +kernel
theorem dX14_build_4 : decode cX14_build 4 = .ok (.iconst 0, 1) := by decide +kernel
theorem dX14_build_5 : decode cX14_build 5 = .ok (.iconst 0, 1) := by decide +kernel
theorem dX14_build_6 : decode cX14_build 6 = .ok (.invokevirtual 387, 3) := by decide +kernel
theorem dX14_build_9 : decode cX14_build 9 = .ok (.istore_n 1, 1) := by decide +kernel
theorem dX14_build_10 : decode cX14_build 10 = .ok (.iconst 0, 1) := by decide +kernel
theorem dX14_build_11 : decode cX14_build 11 = .ok (.istore_n 2, 1) := by decide +kernel
theorem dX14_build_12 : decode cX14_build 12 = .ok (.iconst 1, 1) := by decide +kernel
theorem dX14_build_13 : decode cX14_build 13 = .ok (.istore_n 3, 1) := by decide +kernel
theorem dX14_build_14 : decode cX14_build 14 = .ok (.iload_n 3, 1) := by decide +kernel
theorem dX14_build_15 : decode cX14_build 15 = .ok (.ifCond .eq 157, 3) := by decide +kernel
theorem dX14_build_172 : decode cX14_build 172 = .ok (.iload_n 1, 1) := by decide +kernel
theorem dX14_build_173 : decode cX14_build 173 = .ok (.ireturn, 1) := by decide +kernel
theorem dX14_build_18 : decode cX14_build 18 = .ok (.aload_n 0, 1) := by decide +kernel
theorem dX14_build_19 : decode cX14_build 19 = .ok (.getfield 626, 3) := by decide +kernel
theorem dX14_build_22 : decode cX14_build 22 = .ok (.aload_n 0, 1) := by decide +kernel
theorem dX14_build_23 : decode cX14_build 23 = .ok (.getfield 554, 3) := by decide +kernel
theorem dX14_build_26 : decode cX14_build 26 = .ok (.if_icmp .ge 146, 3) := by decide +kernel
theorem dX14_build_29 : decode cX14_build 29 = .ok (.aload_n 0, 1) := by decide +kernel
theorem dX14_build_30 : decode cX14_build 30 = .ok (.getfield 49, 3) := by decide +kernel
theorem dX14_build_33 : decode cX14_build 33 = .ok (.aload_n 0, 1) := by decide +kernel
theorem dX14_build_34 : decode cX14_build 34 = .ok (.getfield 626, 3) := by decide +kernel
theorem dX14_build_37 : decode cX14_build 37 = .ok (.iaload, 1) := by decide +kernel
theorem dX14_build_38 : decode cX14_build 38 = .ok (.istore 4, 2) := by decide +kernel
theorem dX14_build_40 : decode cX14_build 40 = .ok (.iload 4, 2) := by decide +kernel
theorem dX14_build_42 : decode cX14_build 42 = .ok (.bipush 22, 2) := by decide +kernel
theorem dX14_build_44 : decode cX14_build 44 = .ok (.if_icmp .eq 28, 3) := by decide +kernel
theorem dX14_build_72 : decode cX14_build 72 = .ok (.iconst 0, 1) := by decide +kernel
theorem dX14_build_73 : decode cX14_build 73 = .ok (.istore_n 3, 1) := by decide +kernel
theorem dX14_build_74 : decode cX14_build 74 = .ok (.iload_n 3, 1) := by decide +kernel
theorem dX14_build_75 : decode cX14_build 75 = .ok (.ifCond .ne 6, 3) := by decide +kernel
theorem dX14_build_78 : decode cX14_build 78 = .ok (.goto (-64), 3) := by decide +kernel
theorem dX14_build_47 : decode cX14_build 47 = .ok (.iload 4, 2) := by decide +kernel
theorem dX14_build_49 : decode cX14_build 49 = .ok (.bipush 23, 2) := by decide +kernel
theorem dX14_build_51 : decode cX14_build 51 = .ok (.if_icmp .eq 21, 3) := by decide +kernel
theorem dX14_build_54 : decode cX14_build 54 = .ok (.iload 4, 2) := by decide +kernel
theorem dX14_build_56 : decode cX14_build 56 = .ok (.bipush 24, 2) := by decide +kernel
theorem dX14_build_58 : decode cX14_build 58 = .ok (.if_icmp .eq 14, 3) := by decide +kernel
theorem dX14_build_61 : decode cX14_build 61 = .ok (.iload 4, 2) := by decide +kernel
theorem dX14_build_63 : decode cX14_build 63 = .ok (.bipush 26, 2) := by decide +kernel
theorem dX14_build_65 : decode cX14_build 65 = .ok (.if_icmp .eq 7, 3) := by decide +kernel
theorem dX14_build_68 : decode cX14_build 68 = .ok (.iconst 1, 1) := by decide +kernel
theorem dX14_build_69 : decode cX14_build 69 = .ok (.goto 4, 3) := by decide +kernel
theorem dX14_build_81 : decode cX14_build 81 = .ok (.aload_n 0, 1) := by decide +kernel
theorem dX14_build_82 : decode cX14_build 82 = .ok (.getfield 58, 3) := by decide +kernel
theorem dX14_build_85 : decode cX14_build 85 = .ok (.aload_n 0, 1) := by decide +kernel
theorem dX14_build_86 : decode cX14_build 86 = .ok (.getfield 626, 3) := by decide +kernel
theorem dX14_build_89 : decode cX14_build 89 = .ok (.baload, 1) := by decide +kernel
theorem dX14_build_90 : decode cX14_build 90 = .ok (.ifCond .ne 17, 3) := by decide +kernel
theorem dX14_build_107 : decode cX14_build 107 = .ok (.iconst 0, 1) := by decide +kernel
theorem dX14_build_108 : decode cX14_build 108 = .ok (.goto 9, 3) := by decide +kernel
theorem dX14_build_117 : decode cX14_build 117 = .ok (.istore 5, 2) := by decide +kernel
theorem dX14_build_119 : decode cX14_build 119 = .ok (.iload 5, 2) := by decide +kernel
theorem dX14_build_121 : decode cX14_build 121 = .ok (.ifCond .ne 16, 3) := by decide +kernel
theorem dX14_build_124 : decode cX14_build 124 = .ok (.aload_n 0, 1) := by decide +kernel
theorem dX14_build_125 : decode cX14_build 125 = .ok (.dup, 1) := by decide +kernel
theorem dX14_build_126 : decode cX14_build 126 = .ok (.getfield 626, 3) := by decide +kernel
theorem dX14_build_129 : decode cX14_build 129 = .ok (.iconst 1, 1) := by decide +kernel
theorem dX14_build_130 : decode cX14_build 130 = .ok (.iadd, 1) := by decide +kernel
theorem dX14_build_131 : decode cX14_build 131 = .ok (.putfield 626, 3) := by decide +kernel
theorem dX14_build_134 : decode cX14_build 134 = .ok (.goto (-120), 3) := by decide +kernel
theorem dX14_build_93 : decode cX14_build 93 = .ok (.iload 4, 2) := by decide +kernel
theorem dX14_build_95 : decode cX14_build 95 = .ok (.bipush 21, 2) := by decide +kernel
theorem dX14_build_97 : decode cX14_build 97 = .ok (.if_icmp .eq 10, 3) := by decide +kernel
theorem dX14_build_100 : decode cX14_build 100 = .ok (.iload 4, 2) := by decide +kernel
theorem dX14_build_102 : decode cX14_build 102 = .ok (.bipush 20, 2) := by decide +kernel
theorem dX14_build_104 : decode cX14_build 104 = .ok (.if_icmp .ne 7, 3) := by decide +kernel
theorem dX14_build_111 : decode cX14_build 111 = .ok (.aload_n 0, 1) := by decide +kernel
theorem dX14_build_112 : decode cX14_build 112 = .ok (.iload 4, 2) := by decide +kernel
theorem dX14_build_114 : decode cX14_build 114 = .ok (.invokevirtual 689, 3) := by decide +kernel
theorem dX14_build_137 : decode cX14_build 137 = .ok (.iload_n 2, 1) := by decide +kernel
theorem dX14_build_138 : decode cX14_build 138 = .ok (.ifCond .ne 17, 3) := by decide +kernel
theorem dX14_build_155 : decode cX14_build 155 = .ok (.aload_n 0, 1) := by decide +kernel
theorem dX14_build_156 : decode cX14_build 156 = .ok (.getfield 334, 3) := by decide +kernel
theorem dX14_build_159 : decode cX14_build 159 = .ok (.getfield 365, 3) := by decide +kernel
theorem dX14_build_162 : decode cX14_build 162 = .ok (.iload_n 2, 1) := by decide +kernel
theorem dX14_build_163 : decode cX14_build 163 = .ok (.iload 5, 2) := by decide +kernel
theorem dX14_build_165 : decode cX14_build 165 = .ok (.iastore, 1) := by decide +kernel
theorem dX14_build_166 : decode cX14_build 166 = .ok (.iload 5, 2) := by decide +kernel
theorem dX14_build_168 : decode cX14_build 168 = .ok (.istore_n 2, 1) := by decide +kernel
theorem dX14_build_169 : decode cX14_build 169 = .ok (.goto (-155), 3) := by decide +kernel
theorem dX14_build_141 : decode cX14_build 141 = .ok (.aload_n 0, 1) := by decide +kernel
theorem dX14_build_142 : decode cX14_build 142 = .ok (.getfield 334, 3) := by decide +kernel
theorem dX14_build_145 : decode cX14_build 145 = .ok (.getfield 353, 3) := by decide +kernel
theorem dX14_build_148 : decode cX14_build 148 = .ok (.iload_n 1, 1) := by decide +kernel
theorem dX14_build_149 : decode cX14_build 149 = .ok (.iload 5, 2) := by decide +kernel
theorem dX14_build_151 : decode cX14_build 151 = .ok (.iastore, 1) := by decide +kernel
theorem dX14_build_152 : decode cX14_build 152 = .ok (.goto 14, 3) := by decide +kernel
theorem dX14_element_0 : decode cX14_element 0 = .ok (.aload_n 0, 1) := by decide +kernel
theorem dX14_element_1 : decode cX14_element 1 = .ok (.getfield 626, 3) := by decide +kernel
theorem dX14_element_4 : decode cX14_element 4 = .ok (.istore_n 2, 1) := by decide +kernel
theorem dX14_element_5 : decode cX14_element 5 = .ok (.aload_n 0, 1) := by decide +kernel
theorem dX14_element_6 : decode cX14_element 6 = .ok (.dup, 1) := by decide +kernel
theorem dX14_element_7 : decode cX14_element 7 = .ok (.getfield 626, 3) := by decide +kernel
theorem dX14_element_10 : decode cX14_element 10 = .ok (.iconst 1, 1) := by decide +kernel
theorem dX14_element_11 : decode cX14_element 11 = .ok (.iadd, 1) := by decide +kernel
theorem dX14_element_12 : decode cX14_element 12 = .ok (.putfield 626, 3) := by decide +kernel
theorem dX14_element_15 : decode cX14_element 15 = .ok (.iload_n 1, 1) := by decide +kernel
theorem dX14_element_16 : decode cX14_element 16 = .ok (.iconst 1, 1) := by decide +kernel
theorem dX14_element_17 : decode cX14_element 17 = .ok (.if_icmp .eq 13, 3) := by decide +kernel
theorem dX14_element_30 : decode cX14_element 30 = .ok (.aload_n 0, 1) := by decide +kernel
theorem dX14_element_31 : decode cX14_element 31 = .ok (.iload_n 1, 1) := by decide +kernel
theorem dX14_element_32 : decode cX14_element 32 = .ok (.aload_n 0, 1) := by decide +kernel
theorem dX14_element_33 : decode cX14_element 33 = .ok (.getfield 52, 3) := by decide +kernel
theorem dX14_element_36 : decode cX14_element 36 = .ok (.iload_n 2, 1) := by decide +kernel
theorem dX14_element_37 : decode cX14_element 37 = .ok (.iaload, 1) := by decide +kernel
theorem dX14_element_38 : decode cX14_element 38 = .ok (.iconst 0, 1) := by decide +kernel
theorem dX14_element_39 : decode cX14_element 39 = .ok (.aload_n 0, 1) := by decide +kernel
theorem dX14_element_40 : decode cX14_element 40 = .ok (.getfield 55, 3) := by decide +kernel
theorem dX14_element_43 : decode cX14_element 43 = .ok (.iload_n 2, 1) := by decide +kernel
theorem dX14_element_44 : decode cX14_element 44 = .ok (.iaload, 1) := by decide +kernel
theorem dX14_element_45 : decode cX14_element 45 = .ok (.invokevirtual 387, 3) := by decide +kernel
theorem dX14_element_48 : decode cX14_element 48 = .ok (.ireturn, 1) := by decide +kernel
theorem dX14_element_20 : decode cX14_element 20 = .ok (.iload_n 1, 1) := by decide +kernel
theorem dX14_element_21 : decode cX14_element 21 = .ok (.iconst 2, 1) := by decide +kernel
theorem dX14_element_22 : decode cX14_element 22 = .ok (.if_icmp .eq 8, 3) := by decide +kernel
theorem dX14_element_25 : decode cX14_element 25 = .ok (.iload_n 1, 1) := by decide +kernel
theorem dX14_element_26 : decode cX14_element 26 = .ok (.iconst 3, 1) := by decide +kernel
theorem dX14_element_27 : decode cX14_element 27 = .ok (.if_icmp .ne 22, 3) := by decide +kernel
theorem dX14_element_49 : decode cX14_element 49 = .ok (.iload_n 1, 1) := by decide +kernel
theorem dX14_element_50 : decode cX14_element 50 = .ok (.iconst 4, 1) := by decide +kernel
theorem dX14_element_51 : decode cX14_element 51 = .ok (.if_icmp .eq 15, 3) := by decide +kernel
theorem dX14_element_66 : decode cX14_element 66 = .ok (.aload_n 0, 1) := by decide +kernel
theorem dX14_element_67 : decode cX14_element 67 = .ok (.getfield 52, 3) := by decide +kernel
theorem dX14_element_70 : decode cX14_element 70 = .ok (.iload_n 2, 1) := by decide +kernel
theorem dX14_element_71 : decode cX14_element 71 = .ok (.iaload, 1) := by decide +kernel
theorem dX14_element_72 : decode cX14_element 72 = .ok (.ireturn, 1) := by decide +kernel
theorem dX14_element_54 : decode cX14_element 54 = .ok (.iload_n 1, 1) := by decide +kernel
theorem dX14_element_55 : decode cX14_element 55 = .ok (.bipush 6, 2) := by decide +kernel
theorem dX14_element_57 : decode cX14_element 57 = .ok (.if_icmp .eq 9, 3) := by decide +kernel
theorem dX14_element_60 : decode cX14_element 60 = .ok (.iload_n 1, 1) := by decide +kernel
theorem dX14_element_61 : decode cX14_element 61 = .ok (.bipush 7, 2) := by decide +kernel
theorem dX14_element_63 : decode cX14_element 63 = .ok (.if_icmp .ne 10, 3) := by decide +kernel
theorem dX14_element_73 : decode cX14_element 73 = .ok (.iload_n 1, 1) := by decide +kernel
theorem dX14_element_74 : decode cX14_element 74 = .ok (.bipush 25, 2) := by decide +kernel
theorem dX14_element_76 : decode cX14_element 76 = .ok (.if_icmp .ne 35, 3) := by decide +kernel
theorem dX14_element_111 : decode cX14_element 111 = .ok (.aload_n 0, 1) := by decide +kernel
theorem dX14_element_112 : decode cX14_element 112 = .ok (.iconst 5, 1) := by decide +kernel
theorem dX14_element_113 : decode cX14_element 113 = .ok (.iconst 0, 1) := by decide +kernel
theorem dX14_element_114 : decode cX14_element 114 = .ok (.iconst 0, 1) := by decide +kernel
theorem dX14_element_115 : decode cX14_element 115 = .ok (.aload_n 0, 1) := by decide +kernel
theorem dX14_element_116 : decode cX14_element 116 = .ok (.getfield 55, 3) := by decide +kernel
theorem dX14_element_119 : decode cX14_element 119 = .ok (.iload_n 2, 1) := by decide +kernel
theorem dX14_element_120 : decode cX14_element 120 = .ok (.iaload, 1) := by decide +kernel
theorem dX14_element_121 : decode cX14_element 121 = .ok (.invokevirtual 387, 3) := by decide +kernel
theorem dX14_element_124 : decode cX14_element 124 = .ok (.istore_n 3, 1) := by decide +kernel
theorem dX14_element_125 : decode cX14_element 125 = .ok (.aload_n 0, 1) := by decide +kernel
theorem dX14_element_126 : decode cX14_element 126 = .ok (.bipush 8, 2) := by decide +kernel
theorem dX14_element_128 : decode cX14_element 128 = .ok (.aload_n 0, 1) := by decide +kernel
theorem dX14_element_129 : decode cX14_element 129 = .ok (.getfield 52, 3) := by decide +kernel
theorem dX14_element_132 : decode cX14_element 132 = .ok (.iload_n 2, 1) := by decide +kernel
theorem dX14_element_133 : decode cX14_element 133 = .ok (.iaload, 1) := by decide +kernel
theorem dX14_element_134 : decode cX14_element 134 = .ok (.iconst 0, 1) := by decide +kernel
theorem dX14_element_135 : decode cX14_element 135 = .ok (.aload_n 0, 1) := by decide +kernel
theorem dX14_element_136 : decode cX14_element 136 = .ok (.getfield 55, 3) := by decide +kernel
theorem dX14_element_139 : decode cX14_element 139 = .ok (.iload_n 2, 1) := by decide +kernel
theorem dX14_element_140 : decode cX14_element 140 = .ok (.iaload, 1) := by decide +kernel
theorem dX14_element_141 : decode cX14_element 141 = .ok (.invokevirtual 387, 3) := by decide +kernel
theorem dX14_element_144 : decode cX14_element 144 = .ok (.istore 4, 2) := by decide +kernel
theorem dX14_element_146 : decode cX14_element 146 = .ok (.aload_n 0, 1) := by decide +kernel
theorem dX14_element_147 : decode cX14_element 147 = .ok (.getfield 334, 3) := by decide +kernel
theorem dX14_element_150 : decode cX14_element 150 = .ok (.getfield 353, 3) := by decide +kernel
theorem dX14_element_153 : decode cX14_element 153 = .ok (.iload_n 3, 1) := by decide +kernel
theorem dX14_element_154 : decode cX14_element 154 = .ok (.iload 4, 2) := by decide +kernel
theorem dX14_element_156 : decode cX14_element 156 = .ok (.iastore, 1) := by decide +kernel
theorem dX14_element_157 : decode cX14_element 157 = .ok (.aload_n 0, 1) := by decide +kernel
theorem dX14_element_158 : decode cX14_element 158 = .ok (.getfield 334, 3) := by decide +kernel
theorem dX14_element_161 : decode cX14_element 161 = .ok (.getfield 356, 3) := by decide +kernel
theorem dX14_element_164 : decode cX14_element 164 = .ok (.iload 4, 2) := by decide +kernel
theorem dX14_element_166 : decode cX14_element 166 = .ok (.aload_n 0, 1) := by decide +kernel
theorem dX14_element_167 : decode cX14_element 167 = .ok (.invokevirtual 629, 3) := by decide +kernel
theorem dX14_element_170 : decode cX14_element 170 = .ok (.iastore, 1) := by decide +kernel
theorem dX14_element_171 : decode cX14_element 171 = .ok (.aload_n 0, 1) := by decide +kernel
theorem dX14_element_172 : decode cX14_element 172 = .ok (.getfield 49, 3) := by decide +kernel
theorem dX14_element_175 : decode cX14_element 175 = .ok (.aload_n 0, 1) := by decide +kernel
theorem dX14_element_176 : decode cX14_element 176 = .ok (.getfield 626, 3) := by decide +kernel
theorem dX14_element_179 : decode cX14_element 179 = .ok (.iaload, 1) := by decide +kernel
theorem dX14_element_180 : decode cX14_element 180 = .ok (.bipush 24, 2) := by decide +kernel
theorem dX14_element_182 : decode cX14_element 182 = .ok (.if_icmp .eq 91, 3) := by decide +kernel
theorem dX14_element_273 : decode cX14_element 273 = .ok (.aload_n 0, 1) := by decide +kernel
theorem dX14_element_274 : decode cX14_element 274 = .ok (.dup, 1) := by decide +kernel
theorem dX14_element_275 : decode cX14_element 275 = .ok (.getfield 626, 3) := by decide +kernel
theorem dX14_element_278 : decode cX14_element 278 = .ok (.iconst 1, 1) := by decide +kernel
theorem dX14_element_279 : decode cX14_element 279 = .ok (.iadd, 1) := by decide +kernel
theorem dX14_element_280 : decode cX14_element 280 = .ok (.putfield 626, 3) := by decide +kernel
theorem dX14_element_283 : decode cX14_element 283 = .ok (.iload_n 3, 1) := by decide +kernel
theorem dX14_element_284 : decode cX14_element 284 = .ok (.ireturn, 1) := by decide +kernel
theorem dX14_element_185 : decode cX14_element 185 = .ok (.aload_n 0, 1) := by decide +kernel
theorem dX14_element_186 : decode cX14_element 186 = .ok (.bipush 8, 2) := by decide +kernel
theorem dX14_element_188 : decode cX14_element 188 = .ok (.aload_n 0, 1) := by decide +kernel
theorem dX14_element_189 : decode cX14_element 189 = .ok (.getfield 49, 3) := by decide +kernel
theorem dX14_element_192 : decode cX14_element 192 = .ok (.aload_n 0, 1) := by decide +kernel
theorem dX14_element_193 : decode cX14_element 193 = .ok (.getfield 626, 3) := by decide +kernel
theorem dX14_element_196 : decode cX14_element 196 = .ok (.iaload, 1) := by decide +kernel
theorem dX14_element_197 : decode cX14_element 197 = .ok (.bipush 23, 2) := by decide +kernel
theorem dX14_element_199 : decode cX14_element 199 = .ok (.if_icmp .ne 7, 3) := by decide +kernel
theorem dX14_element_206 : decode cX14_element 206 = .ok (.aload_n 0, 1) := by decide +kernel
theorem dX14_element_207 : decode cX14_element 207 = .ok (.getfield 52, 3) := by decide +kernel
theorem dX14_element_210 : decode cX14_element 210 = .ok (.aload_n 0, 1) := by decide +kernel
theorem dX14_element_211 : decode cX14_element 211 = .ok (.getfield 626, 3) := by decide +kernel
theorem dX14_element_214 : decode cX14_element 214 = .ok (.iaload, 1) := by decide +kernel
theorem dX14_element_215 : decode cX14_element 215 = .ok (.iconst 0, 1) := by decide +kernel
theorem dX14_element_216 : decode cX14_element 216 = .ok (.aload_n 0, 1) := by decide +kernel
theorem dX14_element_217 : decode cX14_element 217 = .ok (.getfield 55, 3) := by decide +kernel
theorem dX14_element_220 : decode cX14_element 220 = .ok (.aload_n 0, 1) := by decide +kernel
theorem dX14_element_221 : decode cX14_element 221 = .ok (.getfield 626, 3) := by decide +kernel
theorem dX14_element_224 : decode cX14_element 224 = .ok (.iaload, 1) := by decide +kernel
theorem dX14_element_225 : decode cX14_element 225 = .ok (.invokevirtual 387, 3) := by decide +kernel
theorem dX14_element_228 : decode cX14_element 228 = .ok (.istore 5, 2) := by decide +kernel
theorem dX14_element_230 : decode cX14_element 230 = .ok (.aload_n 0, 1) := by decide +kernel
theorem dX14_element_231 : decode cX14_element 231 = .ok (.dup, 1) := by decide +kernel
theorem dX14_element_232 : decode cX14_element 232 = .ok (.getfield 626, 3) := by decide +kernel
theorem dX14_element_235 : decode cX14_element 235 = .ok (.iconst 1, 1) := by decide +kernel
theorem dX14_element_236 : decode cX14_element 236 = .ok (.iadd, 1) := by decide +kernel
theorem dX14_element_237 : decode cX14_element 237 = .ok (.putfield 626, 3) := by decide +kernel
theorem dX14_element_240 : decode cX14_element 240 = .ok (.aload_n 0, 1) := by decide +kernel
theorem dX14_element_241 : decode cX14_element 241 = .ok (.getfield 334, 3) := by decide +kernel
theorem dX14_element_244 : decode cX14_element 244 = .ok (.getfield 365, 3) := by decide +kernel
theorem dX14_element_247 : decode cX14_element 247 = .ok (.iload 4, 2) := by decide +kernel
theorem dX14_element_249 : decode cX14_element 249 = .ok (.iload 5, 2) := by decide +kernel
theorem dX14_element_251 : decode cX14_element 251 = .ok (.iastore, 1) := by decide +kernel
theorem dX14_element_252 : decode cX14_element 252 = .ok (.iload 5, 2) := by decide +kernel
theorem dX14_element_254 : decode cX14_element 254 = .ok (.istore 4, 2) := by decide +kernel
theorem dX14_element_256 : decode cX14_element 256 = .ok (.aload_n 0, 1) := by decide +kernel
theorem dX14_element_257 : decode cX14_element 257 = .ok (.getfield 334, 3) := by decide +kernel
theorem dX14_element_260 : decode cX14_element 260 = .ok (.getfield 356, 3) := by decide +kernel
theorem dX14_element_263 : decode cX14_element 263 = .ok (.iload 5, 2) := by decide +kernel
theorem dX14_element_265 : decode cX14_element 265 = .ok (.aload_n 0, 1) := by decide +kernel
theorem dX14_element_266 : decode cX14_element 266 = .ok (.invokevirtual 629, 3) := by decide +kernel
theorem dX14_element_269 : decode cX14_element 269 = .ok (.iastore, 1) := by decide +kernel
theorem dX14_element_270 : decode cX14_element 270 = .ok (.goto (-99), 3) := by decide +kernel
theorem dX14_element_202 : decode cX14_element 202 = .ok (.iconst 0, 1) := by decide +kernel
theorem dX14_element_203 : decode cX14_element 203 = .ok (.goto 12, 3) := by decide +kernel
theorem dX14_element_79 : decode cX14_element 79 = .ok (.aload_n 0, 1) := by decide +kernel
theorem dX14_element_80 : decode cX14_element 80 = .ok (.getfield 52, 3) := by decide +kernel
theorem dX14_element_83 : decode cX14_element 83 = .ok (.iload_n 2, 1) := by decide +kernel
theorem dX14_element_84 : decode cX14_element 84 = .ok (.iaload, 1) := by decide +kernel
theorem dX14_element_85 : decode cX14_element 85 = .ok (.istore_n 3, 1) := by decide +kernel
theorem dX14_element_86 : decode cX14_element 86 = .ok (.aload_n 0, 1) := by decide +kernel
theorem dX14_element_87 : decode cX14_element 87 = .ok (.getfield 334, 3) := by decide +kernel
theorem dX14_element_90 : decode cX14_element 90 = .ok (.getfield 356, 3) := by decide +kernel
theorem dX14_element_93 : decode cX14_element 93 = .ok (.iload_n 3, 1) := by decide +kernel
theorem dX14_element_94 : decode cX14_element 94 = .ok (.aload_n 0, 1) := by decide +kernel
theorem dX14_element_95 : decode cX14_element 95 = .ok (.invokevirtual 629, 3) := by decide +kernel
theorem dX14_element_98 : decode cX14_element 98 = .ok (.iastore, 1) := by decide +kernel
theorem dX14_element_99 : decode cX14_element 99 = .ok (.aload_n 0, 1) := by decide +kernel
theorem dX14_element_100 : decode cX14_element 100 = .ok (.dup, 1) := by decide +kernel
theorem dX14_element_101 : decode cX14_element 101 = .ok (.getfield 626, 3) := by decide +kernel
theorem dX14_element_104 : decode cX14_element 104 = .ok (.iconst 1, 1) := by decide +kernel
theorem dX14_element_105 : decode cX14_element 105 = .ok (.iadd, 1) := by decide +kernel
theorem dX14_element_106 : decode cX14_element 106 = .ok (.putfield 626, 3) := by decide +kernel
theorem dX14_element_109 : decode cX14_element 109 = .ok (.iload_n 3, 1) := by decide +kernel
theorem dX14_element_110 : decode cX14_element 110 = .ok (.ireturn, 1) := by decide +kernel
def pre_X14_build (σ : rS) (gg : Nat) (B : GBt) : Prop := rR σ 7 = gg ∧ rgk gg ∧ 0 ≤ (rF σ 0 14) ∧ (rF σ 0 14) ≤ 7 ∧ 0 ≤ (rF σ 0 42) ∧ (rF σ 0 42) ≤ (rF σ 0 38) ∧ (rF σ 0 38) ≤ 8990 ∧ 1 ≤ (rF σ gg 7) ∧ (rF σ gg 7) + 3 * ((rF σ 0 38) - (rF σ 0 42)) ≤ 49980 ∧ WNp σ ∧ BPre σ gg B ∧ PNp σ
def post_X14_build (σ : rS) (gg : Nat) (B : GBt) (r : Int) (σ' : rS) : Prop := (rF σ 0 42) ≤ (rF σ' 0 42) ∧ (rF σ' 0 42) ≤ (rF σ 0 38) ∧ r = (rF σ gg 7) ∧ (rF σ gg 7) < (rF σ' gg 7) ∧ (rF σ' gg 7) ≤ (rF σ gg 7) + 1 + 3 * ((rF σ' 0 42) - (rF σ 0 42)) ∧ BQb σ σ' gg B r ∧ PNp σ'
def rk_X14_build (σ : rS) (gg : Nat) (B : GBt) : Nat := 2 * (21 - B.2.1.length) + 2
def inv_X14_build_14 (σ : rS) (gg : Nat) (B : GBt)  (s : rS) (text : Int) (last : Int) (more : Int) : Prop := text = (rF σ gg 7) ∧ (rF σ 0 42) ≤ (rF s 0 42) ∧ (rF s 0 42) ≤ (rF σ 0 38) ∧ (rF σ gg 7) + 1 ≤ (rF s gg 7) ∧ (rF s gg 7) ≤ (rF σ gg 7) + 1 + 3 * ((rF s 0 42) - (rF σ 0 42)) ∧ (more = 0 ∨ more = 1) ∧ 0 ≤ last ∧ last < (rF s gg 7) ∧ (more = 0 → (rF s 0 42) < (rF σ 0 38) ∧ clo (rA s 1034 (rF s 0 42))) ∧ BLI σ s gg B last ∧ PNp s
def mu_X14_build_14 (σ : rS) (gg : Nat) (B : GBt) (s : rS) (text : Int) (last : Int) (more : Int) : Nat := (1 + (9000 - (rF s 0 42)).toNat + more.toNat)
def pre_X14_element (σ : rS) (x1 : Int) (gg : Nat) (B : GBt) : Prop := rR σ 7 = gg ∧ rgk gg ∧ 0 ≤ (rF σ 0 14) ∧ (rF σ 0 14) ≤ 7 ∧ 0 ≤ (rF σ 0 42) ∧ (rF σ 0 42) < (rF σ 0 38) ∧ (rF σ 0 38) ≤ 8990 ∧ 1 ≤ (rF σ gg 7) ∧ (rF σ gg 7) + 3 * ((rF σ 0 38) - (rF σ 0 42)) ≤ 49981 ∧ WNp σ ∧ BPre σ gg B ∧ x1 = (rA σ 1034 ((rF σ 0 42))) ∧ (x1 = 1 ∨ x1 = 2 ∨ x1 = 3 ∨ x1 = 4 ∨ x1 = 5 ∨ x1 = 6 ∨ x1 = 7 ∨ x1 = 25) ∧ PNp σ
def post_X14_element (σ : rS) (x1 : Int) (gg : Nat) (B : GBt) (r : Int) (σ' : rS) : Prop := (rF σ 0 42) + 1 ≤ (rF σ' 0 42) ∧ (rF σ' 0 42) ≤ (rF σ 0 38) ∧ 0 < r ∧ r < (rF σ' gg 7) ∧ (rF σ gg 7) ≤ (rF σ' gg 7) ∧ (rF σ' gg 7) ≤ (rF σ gg 7) + 3 * ((rF σ' 0 42) - (rF σ 0 42)) ∧ BQe σ σ' gg B r ∧ PNp σ'
def rk_X14_element (σ : rS) (x1 : Int) (gg : Nat) (B : GBt) : Nat := 2 * (21 - B.2.1.length) + 1
def inv_X14_element_171 (σ : rS) (x1 : Int) (gg : Nat) (B : GBt)  (s : rS) (it : Int) (last : Int) : Prop := (rF σ gg 7) ≤ it ∧ it < (rF s gg 7) ∧ (rF σ gg 7) ≤ last ∧ last < (rF s gg 7) ∧ (rF σ 0 42) + 1 ≤ (rF s 0 42) ∧ (rF s 0 42) < (rF σ 0 38) ∧ (rF σ gg 7) ≤ (rF s gg 7) ∧ (rF s gg 7) ≤ (rF σ gg 7) + 3 * ((rF s 0 42) - (rF σ 0 42)) ∧ ELI σ s gg B it last ∧ PNp s
def mu_X14_element_171 (σ : rS) (x1 : Int) (gg : Nat) (B : GBt) (s : rS) (it : Int) (last : Int) : Nat := (1 + (9000 - (rF s 0 42)).toNat)
def VC_X14_build (n : Nat) (σ : rS) (gg : Nat) (B : GBt) (Q : Int → rS → Prop) : Prop := rgk (rR σ 7) ∧ pre_X14_node_t σ 9 0 0 0 gg ∧ (∀ (v6 : Int) (s6 : rS), rng v6 → rWF s6 → (WNp σ → WNp s6) → rR s6 7 = rR σ 7 → rF s6 0 14 = rF σ 0 14 → rF s6 0 38 = rF σ 0 38 → rF s6 0 42 = rF σ 0 42 → (∀ i, rA s6 1034 i = rA σ 1034 i) → (∀ i, rA s6 1035 i = rA σ 1035 i) → (∀ i, rA s6 1036 i = rA σ 1036 i) → rF s6 (rR σ 7) 12 = rF σ (rR σ 7) 12 → rF s6 (rR σ 7) 38 = rF σ (rR σ 7) 38 → post_X14_node_t σ 9 0 0 0 gg v6 s6 → (inv_X14_build_14 σ gg B s6 v6 0 1))
def VC_X14_build_14 (n : Nat) (σ : rS) (gg : Nat) (B : GBt) (Q : Int → rS → Prop) : Prop := ∀ (s14 : rS) (y14_1 : Int) (y14_2 : Int) (y14_3 : Int), rWF s14 → rng y14_1 → rng y14_2 → rng y14_3 → (WNp σ → WNp s14) → rR s14 7 = rR σ 7 → rF s14 0 14 = rF σ 0 14 → rF s14 0 38 = rF σ 0 38 → (∀ i, rA s14 1034 i = rA σ 1034 i) → (∀ i, rA s14 1035 i = rA σ 1035 i) → (∀ i, rA s14 1036 i = rA σ 1036 i) → rF s14 (rR σ 7) 12 = rF σ (rR σ 7) 12 → rF s14 (rR σ 7) 38 = rF σ (rR σ 7) 38 → inv_X14_build_14 σ gg B s14 y14_1 y14_2 y14_3 → (((y14_3 = 0 → Q y14_1 s14) ∧ (¬ y14_3 = 0 → (rng (rF s14 0 42) → (rng (rF s14 0 38) → (((rF s14 0 38) ≤ (rF s14 0 42) → Q y14_1 s14) ∧ (¬ (rF s14 0 38) ≤ (rF s14 0 42) → (0 ≤ (rF s14 0 42) ∧ (rF s14 0 42) < 9000) ∧ (rng (rA s14 1034 (rF s14 0 42)) → (((rA s14 1034 (rF s14 0 42)) = 22 → (inv_X14_build_14 σ gg B s14 y14_1 y14_2 0 ∧ (mu_X14_build_14 σ gg B s14 y14_1 y14_2 0) < (mu_X14_build_14 σ gg B s14 y14_1 y14_2 y14_3))) ∧ (¬ (rA s14 1034 (rF s14 0 42)) = 22 → (((rA s14 1034 (rF s14 0 42)) = 23 → (inv_X14_build_14 σ gg B s14 y14_1 y14_2 0 ∧ (mu_X14_build_14 σ gg B s14 y14_1 y14_2 0) < (mu_X14_build_14 σ gg B s14 y14_1 y14_2 y14_3))) ∧ (¬ (rA s14 1034 (rF s14 0 42)) = 23 → (((rA s14 1034 (rF s14 0 42)) = 24 → (inv_X14_build_14 σ gg B s14 y14_1 y14_2 0 ∧ (mu_X14_build_14 σ gg B s14 y14_1 y14_2 0) < (mu_X14_build_14 σ gg B s14 y14_1 y14_2 y14_3))) ∧ (¬ (rA s14 1034 (rF s14 0 42)) = 24 → (((rA s14 1034 (rF s14 0 42)) = 26 → (inv_X14_build_14 σ gg B s14 y14_1 y14_2 0 ∧ (mu_X14_build_14 σ gg B s14 y14_1 y14_2 0) < (mu_X14_build_14 σ gg B s14 y14_1 y14_2 y14_3))) ∧ (¬ (rA s14 1034 (rF s14 0 42)) = 26 → (0 ≤ (rF s14 0 42) ∧ (rF s14 0 42) < 9000) ∧ (rng (rA s14 1037 (rF s14 0 42)) → ((¬ (rA s14 1037 (rF s14 0 42)) = 0 → rng ((rF s14 0 42) + 1) ∧ (inv_X14_build_14 σ gg B (sF s14 0 42 ((rF s14 0 42) + 1)) y14_1 y14_2 1 ∧ (mu_X14_build_14 σ gg B (sF s14 0 42 ((rF s14 0 42) + 1)) y14_1 y14_2 1) < (mu_X14_build_14 σ gg B s14 y14_1 y14_2 y14_3))) ∧ ((rA s14 1037 (rF s14 0 42)) = 0 → (((rA s14 1034 (rF s14 0 42)) = 21 → rng ((rF s14 0 42) + 1) ∧ (inv_X14_build_14 σ gg B (sF s14 0 42 ((rF s14 0 42) + 1)) y14_1 y14_2 1 ∧ (mu_X14_build_14 σ gg B (sF s14 0 42 ((rF s14 0 42) + 1)) y14_1 y14_2 1) < (mu_X14_build_14 σ gg B s14 y14_1 y14_2 y14_3))) ∧ (¬ (rA s14 1034 (rF s14 0 42)) = 21 → ((¬ (rA s14 1034 (rF s14 0 42)) = 20 → ∃ (B17 : GBt), pre_X14_element s14 (rA s14 1034 (rF s14 0 42)) gg B17 ∧ rk_X14_element s14 (rA s14 1034 (rF s14 0 42)) gg B17 ≤ n ∧ (∀ (v114 : Int) (s114 : rS), rng v114 → rWF s114 → (WNp s14 → WNp s114) → rR s114 7 = rR s14 7 → rF s114 0 14 = rF s14 0 14 → rF s114 0 38 = rF s14 0 38 → (∀ i, rA s114 1034 i = rA s14 1034 i) → (∀ i, rA s114 1035 i = rA s14 1035 i) → (∀ i, rA s114 1036 i = rA s14 1036 i) → rF s114 (rR σ 7) 12 = rF s14 (rR σ 7) 12 → rF s114 (rR σ 7) 38 = rF s14 (rR σ 7) 38 → post_X14_element s14 (rA s14 1034 (rF s14 0 42)) gg B17 v114 s114 → ((¬ v114 = 0 → ((¬ y14_2 = 0 → (0 ≤ y14_2 ∧ y14_2 < 50000) ∧ (inv_X14_build_14 σ gg B (sT s114 (rR σ 7) 5 y14_2 v114) y14_1 v114 1 ∧ (mu_X14_build_14 σ gg B (sT s114 (rR σ 7) 5 y14_2 v114) y14_1 v114 1) < (mu_X14_build_14 σ gg B s14 y14_1 y14_2 y14_3))) ∧ (y14_2 = 0 → (0 ≤ y14_1 ∧ y14_1 < 50000) ∧ (inv_X14_build_14 σ gg B (sT s114 (rR σ 7) 1 y14_1 v114) y14_1 v114 1 ∧ (mu_X14_build_14 σ gg B (sT s114 (rR σ 7) 1 y14_1 v114) y14_1 v114 1) < (mu_X14_build_14 σ gg B s14 y14_1 y14_2 y14_3))))) ∧ (v114 = 0 → (rng (rF s114 0 42) → rng ((rF s114 0 42) + 1) ∧ (inv_X14_build_14 σ gg B (sF s114 0 42 ((rF s114 0 42) + 1)) y14_1 y14_2 1 ∧ (mu_X14_build_14 σ gg B (sF s114 0 42 ((rF s114 0 42) + 1)) y14_1 y14_2 1) < (mu_X14_build_14 σ gg B s14 y14_1 y14_2 y14_3))))))) ∧ ((rA s14 1034 (rF s14 0 42)) = 20 → rng ((rF s14 0 42) + 1) ∧ (inv_X14_build_14 σ gg B (sF s14 0 42 ((rF s14 0 42) + 1)) y14_1 y14_2 1 ∧ (mu_X14_build_14 σ gg B (sF s14 0 42 ((rF s14 0 42) + 1)) y14_1 y14_2 1) < (mu_X14_build_14 σ gg B s14 y14_1 y14_2 y14_3)))))))))))))))))))))))))
def VC_X14_build_14m (n : Nat) (σ : rS) (gg : Nat) (B : GBt) : Prop := ∀ (s14 : rS) (y14_1 : Int) (y14_2 : Int) (y14_3 : Int), rWF s14 → rng y14_1 → rng y14_2 → rng y14_3 → (WNp σ → WNp s14) → rR s14 7 = rR σ 7 → rF s14 0 14 = rF σ 0 14 → rF s14 0 38 = rF σ 0 38 → (∀ i, rA s14 1034 i = rA σ 1034 i) → (∀ i, rA s14 1035 i = rA σ 1035 i) → (∀ i, rA s14 1036 i = rA σ 1036 i) → rF s14 (rR σ 7) 12 = rF σ (rR σ 7) 12 → rF s14 (rR σ 7) 38 = rF σ (rR σ 7) 38 → inv_X14_build_14 σ gg B s14 y14_1 y14_2 y14_3 → 0 < (mu_X14_build_14 σ gg B s14 y14_1 y14_2 y14_3)
def VC_X14_element (n : Nat) (σ : rS) (x1 : Int) (gg : Nat) (B : GBt) (Q : Int → rS → Prop) : Prop := rgk (rR σ 7) ∧ (rng (rF σ 0 42) → rng ((rF σ 0 42) + 1) ∧ ((x1 = 1 → (0 ≤ (rF σ 0 42) ∧ (rF σ 0 42) < 9000) ∧ (rng (rA σ 1035 (rF σ 0 42)) → (0 ≤ (rF σ 0 42) ∧ (rF σ 0 42) < 9000) ∧ (rng (rA σ 1036 (rF σ 0 42)) → pre_X14_node_t (sF σ 0 42 ((rF σ 0 42) + 1)) x1 (rA σ 1035 (rF σ 0 42)) 0 (rA σ 1036 (rF σ 0 42)) gg ∧ (∀ (v45 : Int) (s45 : rS), rng v45 → rWF s45 → (WNp (sF σ 0 42 ((rF σ 0 42) + 1)) → WNp s45) → rR s45 7 = rR (sF σ 0 42 ((rF σ 0 42) + 1)) 7 → rF s45 0 14 = rF (sF σ 0 42 ((rF σ 0 42) + 1)) 0 14 → rF s45 0 38 = rF (sF σ 0 42 ((rF σ 0 42) + 1)) 0 38 → rF s45 0 42 = rF (sF σ 0 42 ((rF σ 0 42) + 1)) 0 42 → (∀ i, rA s45 1034 i = rA (sF σ 0 42 ((rF σ 0 42) + 1)) 1034 i) → (∀ i, rA s45 1035 i = rA (sF σ 0 42 ((rF σ 0 42) + 1)) 1035 i) → (∀ i, rA s45 1036 i = rA (sF σ 0 42 ((rF σ 0 42) + 1)) 1036 i) → rF s45 (rR σ 7) 12 = rF (sF σ 0 42 ((rF σ 0 42) + 1)) (rR σ 7) 12 → rF s45 (rR σ 7) 38 = rF (sF σ 0 42 ((rF σ 0 42) + 1)) (rR σ 7) 38 → post_X14_node_t (sF σ 0 42 ((rF σ 0 42) + 1)) x1 (rA σ 1035 (rF σ 0 42)) 0 (rA σ 1036 (rF σ 0 42)) gg v45 s45 → Q v45 s45)))) ∧ (¬ x1 = 1 → ((x1 = 2 → (0 ≤ (rF σ 0 42) ∧ (rF σ 0 42) < 9000) ∧ (rng (rA σ 1035 (rF σ 0 42)) → (0 ≤ (rF σ 0 42) ∧ (rF σ 0 42) < 9000) ∧ (rng (rA σ 1036 (rF σ 0 42)) → pre_X14_node_t (sF σ 0 42 ((rF σ 0 42) + 1)) x1 (rA σ 1035 (rF σ 0 42)) 0 (rA σ 1036 (rF σ 0 42)) gg ∧ (∀ (v45 : Int) (s45 : rS), rng v45 → rWF s45 → (WNp (sF σ 0 42 ((rF σ 0 42) + 1)) → WNp s45) → rR s45 7 = rR (sF σ 0 42 ((rF σ 0 42) + 1)) 7 → rF s45 0 14 = rF (sF σ 0 42 ((rF σ 0 42) + 1)) 0 14 → rF s45 0 38 = rF (sF σ 0 42 ((rF σ 0 42) + 1)) 0 38 → rF s45 0 42 = rF (sF σ 0 42 ((rF σ 0 42) + 1)) 0 42 → (∀ i, rA s45 1034 i = rA (sF σ 0 42 ((rF σ 0 42) + 1)) 1034 i) → (∀ i, rA s45 1035 i = rA (sF σ 0 42 ((rF σ 0 42) + 1)) 1035 i) → (∀ i, rA s45 1036 i = rA (sF σ 0 42 ((rF σ 0 42) + 1)) 1036 i) → rF s45 (rR σ 7) 12 = rF (sF σ 0 42 ((rF σ 0 42) + 1)) (rR σ 7) 12 → rF s45 (rR σ 7) 38 = rF (sF σ 0 42 ((rF σ 0 42) + 1)) (rR σ 7) 38 → post_X14_node_t (sF σ 0 42 ((rF σ 0 42) + 1)) x1 (rA σ 1035 (rF σ 0 42)) 0 (rA σ 1036 (rF σ 0 42)) gg v45 s45 → Q v45 s45)))) ∧ (¬ x1 = 2 → ((¬ x1 = 3 → ((x1 = 4 → (0 ≤ (rF σ 0 42) ∧ (rF σ 0 42) < 9000) ∧ (rng (rA σ 1035 (rF σ 0 42)) → Q (rA σ 1035 (rF σ 0 42)) (sF σ 0 42 ((rF σ 0 42) + 1)))) ∧ (¬ x1 = 4 → ((x1 = 6 → (0 ≤ (rF σ 0 42) ∧ (rF σ 0 42) < 9000) ∧ (rng (rA σ 1035 (rF σ 0 42)) → Q (rA σ 1035 (rF σ 0 42)) (sF σ 0 42 ((rF σ 0 42) + 1)))) ∧ (¬ x1 = 6 → ((¬ x1 = 7 → ((¬ x1 = 25 → (0 ≤ (rF σ 0 42) ∧ (rF σ 0 42) < 9000) ∧ (rng (rA σ 1036 (rF σ 0 42)) → pre_X14_node_t (sF σ 0 42 ((rF σ 0 42) + 1)) 5 0 0 (rA σ 1036 (rF σ 0 42)) gg ∧ (∀ (v121 : Int) (s121 : rS), rng v121 → rWF s121 → (WNp (sF σ 0 42 ((rF σ 0 42) + 1)) → WNp s121) → rR s121 7 = rR (sF σ 0 42 ((rF σ 0 42) + 1)) 7 → rF s121 0 14 = rF (sF σ 0 42 ((rF σ 0 42) + 1)) 0 14 → rF s121 0 38 = rF (sF σ 0 42 ((rF σ 0 42) + 1)) 0 38 → rF s121 0 42 = rF (sF σ 0 42 ((rF σ 0 42) + 1)) 0 42 → (∀ i, rA s121 1034 i = rA (sF σ 0 42 ((rF σ 0 42) + 1)) 1034 i) → (∀ i, rA s121 1035 i = rA (sF σ 0 42 ((rF σ 0 42) + 1)) 1035 i) → (∀ i, rA s121 1036 i = rA (sF σ 0 42 ((rF σ 0 42) + 1)) 1036 i) → rF s121 (rR σ 7) 12 = rF (sF σ 0 42 ((rF σ 0 42) + 1)) (rR σ 7) 12 → rF s121 (rR σ 7) 38 = rF (sF σ 0 42 ((rF σ 0 42) + 1)) (rR σ 7) 38 → post_X14_node_t (sF σ 0 42 ((rF σ 0 42) + 1)) 5 0 0 (rA σ 1036 (rF σ 0 42)) gg v121 s121 → (0 ≤ (rF σ 0 42) ∧ (rF σ 0 42) < 9000) ∧ (rng (rA s121 1035 (rF σ 0 42)) → (0 ≤ (rF σ 0 42) ∧ (rF σ 0 42) < 9000) ∧ (rng (rA s121 1036 (rF σ 0 42)) → pre_X14_node_t s121 8 (rA s121 1035 (rF σ 0 42)) 0 (rA s121 1036 (rF σ 0 42)) gg ∧ (∀ (v141 : Int) (s141 : rS), rng v141 → rWF s141 → (WNp s121 → WNp s141) → rR s141 7 = rR s121 7 → rF s141 0 14 = rF s121 0 14 → rF s141 0 38 = rF s121 0 38 → rF s141 0 42 = rF s121 0 42 → (∀ i, rA s141 1034 i = rA s121 1034 i) → (∀ i, rA s141 1035 i = rA s121 1035 i) → (∀ i, rA s141 1036 i = rA s121 1036 i) → rF s141 (rR σ 7) 12 = rF s121 (rR σ 7) 12 → rF s141 (rR σ 7) 38 = rF s121 (rR σ 7) 38 → post_X14_node_t s121 8 (rA s121 1035 (rF σ 0 42)) 0 (rA s121 1036 (rF σ 0 42)) gg v141 s141 → (0 ≤ v121 ∧ v121 < 50000) ∧ ∃ (B27 : GBt), pre_X14_build (sT s141 (rR σ 7) 1 v121 v141) gg B27 ∧ rk_X14_build (sT s141 (rR σ 7) 1 v121 v141) gg B27 ≤ n ∧ (∀ (v167 : Int) (s167 : rS), rng v167 → rWF s167 → (WNp (sT s141 (rR σ 7) 1 v121 v141) → WNp s167) → rR s167 7 = rR (sT s141 (rR σ 7) 1 v121 v141) 7 → rF s167 0 14 = rF (sT s141 (rR σ 7) 1 v121 v141) 0 14 → rF s167 0 38 = rF (sT s141 (rR σ 7) 1 v121 v141) 0 38 → (∀ i, rA s167 1034 i = rA (sT s141 (rR σ 7) 1 v121 v141) 1034 i) → (∀ i, rA s167 1035 i = rA (sT s141 (rR σ 7) 1 v121 v141) 1035 i) → (∀ i, rA s167 1036 i = rA (sT s141 (rR σ 7) 1 v121 v141) 1036 i) → rF s167 (rR σ 7) 12 = rF (sT s141 (rR σ 7) 1 v121 v141) (rR σ 7) 12 → rF s167 (rR σ 7) 38 = rF (sT s141 (rR σ 7) 1 v121 v141) (rR σ 7) 38 → post_X14_build (sT s141 (rR σ 7) 1 v121 v141) gg B27 v167 s167 → (0 ≤ v141 ∧ v141 < 50000) ∧ (inv_X14_element_171 σ x1 gg B (sT s167 (rR σ 7) 2 v141 v167) v121 v141)))))))) ∧ (x1 = 25 → (0 ≤ (rF σ 0 42) ∧ (rF σ 0 42) < 9000) ∧ (rng (rA σ 1035 (rF σ 0 42)) → ∃ (B60 : GBt), pre_X14_build (sF σ 0 42 ((rF σ 0 42) + 1)) gg B60 ∧ rk_X14_build (sF σ 0 42 ((rF σ 0 42) + 1)) gg B60 ≤ n ∧ (∀ (v95 : Int) (s95 : rS), rng v95 → rWF s95 → (WNp (sF σ 0 42 ((rF σ 0 42) + 1)) → WNp s95) → rR s95 7 = rR (sF σ 0 42 ((rF σ 0 42) + 1)) 7 → rF s95 0 14 = rF (sF σ 0 42 ((rF σ 0 42) + 1)) 0 14 → rF s95 0 38 = rF (sF σ 0 42 ((rF σ 0 42) + 1)) 0 38 → (∀ i, rA s95 1034 i = rA (sF σ 0 42 ((rF σ 0 42) + 1)) 1034 i) → (∀ i, rA s95 1035 i = rA (sF σ 0 42 ((rF σ 0 42) + 1)) 1035 i) → (∀ i, rA s95 1036 i = rA (sF σ 0 42 ((rF σ 0 42) + 1)) 1036 i) → rF s95 (rR σ 7) 12 = rF (sF σ 0 42 ((rF σ 0 42) + 1)) (rR σ 7) 12 → rF s95 (rR σ 7) 38 = rF (sF σ 0 42 ((rF σ 0 42) + 1)) (rR σ 7) 38 → post_X14_build (sF σ 0 42 ((rF σ 0 42) + 1)) gg B60 v95 s95 → (0 ≤ (rA σ 1035 (rF σ 0 42)) ∧ (rA σ 1035 (rF σ 0 42)) < 50000) ∧ (rng (rF s95 0 42) → rng ((rF s95 0 42) + 1) ∧ Q (rA σ 1035 (rF σ 0 42)) (sF (sT s95 (rR σ 7) 2 (rA σ 1035 (rF σ 0 42)) v95) 0 42 ((rF s95 0 42) + 1)))))))) ∧ (x1 = 7 → (0 ≤ (rF σ 0 42) ∧ (rF σ 0 42) < 9000) ∧ (rng (rA σ 1035 (rF σ 0 42)) → Q (rA σ 1035 (rF σ 0 42)) (sF σ 0 42 ((rF σ 0 42) + 1)))))))))) ∧ (x1 = 3 → (0 ≤ (rF σ 0 42) ∧ (rF σ 0 42) < 9000) ∧ (rng (rA σ 1035 (rF σ 0 42)) → (0 ≤ (rF σ 0 42) ∧ (rF σ 0 42) < 9000) ∧ (rng (rA σ 1036 (rF σ 0 42)) → pre_X14_node_t (sF σ 0 42 ((rF σ 0 42) + 1)) x1 (rA σ 1035 (rF σ 0 42)) 0 (rA σ 1036 (rF σ 0 42)) gg ∧ (∀ (v45 : Int) (s45 : rS), rng v45 → rWF s45 → (WNp (sF σ 0 42 ((rF σ 0 42) + 1)) → WNp s45) → rR s45 7 = rR (sF σ 0 42 ((rF σ 0 42) + 1)) 7 → rF s45 0 14 = rF (sF σ 0 42 ((rF σ 0 42) + 1)) 0 14 → rF s45 0 38 = rF (sF σ 0 42 ((rF σ 0 42) + 1)) 0 38 → rF s45 0 42 = rF (sF σ 0 42 ((rF σ 0 42) + 1)) 0 42 → (∀ i, rA s45 1034 i = rA (sF σ 0 42 ((rF σ 0 42) + 1)) 1034 i) → (∀ i, rA s45 1035 i = rA (sF σ 0 42 ((rF σ 0 42) + 1)) 1035 i) → (∀ i, rA s45 1036 i = rA (sF σ 0 42 ((rF σ 0 42) + 1)) 1036 i) → rF s45 (rR σ 7) 12 = rF (sF σ 0 42 ((rF σ 0 42) + 1)) (rR σ 7) 12 → rF s45 (rR σ 7) 38 = rF (sF σ 0 42 ((rF σ 0 42) + 1)) (rR σ 7) 38 → post_X14_node_t (sF σ 0 42 ((rF σ 0 42) + 1)) x1 (rA σ 1035 (rF σ 0 42)) 0 (rA σ 1036 (rF σ 0 42)) gg v45 s45 → Q v45 s45))))))))))
def VC_X14_element_171 (n : Nat) (σ : rS) (x1 : Int) (gg : Nat) (B : GBt) (Q : Int → rS → Prop) : Prop := ∀ (s171 : rS) (y171_3 : Int) (y171_4 : Int), rWF s171 → rng y171_3 → rng y171_4 → (WNp σ → WNp s171) → rR s171 7 = rR σ 7 → rF s171 0 14 = rF σ 0 14 → rF s171 0 38 = rF σ 0 38 → (∀ i, rA s171 1034 i = rA σ 1034 i) → (∀ i, rA s171 1035 i = rA σ 1035 i) → (∀ i, rA s171 1036 i = rA σ 1036 i) → rF s171 (rR σ 7) 12 = rF σ (rR σ 7) 12 → rF s171 (rR σ 7) 38 = rF σ (rR σ 7) 38 → inv_X14_element_171 σ x1 gg B s171 y171_3 y171_4 → ((rng (rF s171 0 42) → (0 ≤ (rF s171 0 42) ∧ (rF s171 0 42) < 9000) ∧ (rng (rA s171 1034 (rF s171 0 42)) → (((rA s171 1034 (rF s171 0 42)) = 24 → rng ((rF s171 0 42) + 1) ∧ Q y171_3 (sF s171 0 42 ((rF s171 0 42) + 1))) ∧ (¬ (rA s171 1034 (rF s171 0 42)) = 24 → (0 ≤ (rF s171 0 42) ∧ (rF s171 0 42) < 9000) ∧ ((¬ (rA s171 1034 (rF s171 0 42)) = 23 → (0 ≤ (rF s171 0 42) ∧ (rF s171 0 42) < 9000) ∧ (rng (rA s171 1035 (rF s171 0 42)) → (0 ≤ (rF s171 0 42) ∧ (rF s171 0 42) < 9000) ∧ (rng (rA s171 1036 (rF s171 0 42)) → pre_X14_node_t s171 8 (rA s171 1035 (rF s171 0 42)) 0 (rA s171 1036 (rF s171 0 42)) gg ∧ (∀ (v225 : Int) (s225 : rS), rng v225 → rWF s225 → (WNp s171 → WNp s225) → rR s225 7 = rR s171 7 → rF s225 0 14 = rF s171 0 14 → rF s225 0 38 = rF s171 0 38 → rF s225 0 42 = rF s171 0 42 → (∀ i, rA s225 1034 i = rA s171 1034 i) → (∀ i, rA s225 1035 i = rA s171 1035 i) → (∀ i, rA s225 1036 i = rA s171 1036 i) → rF s225 (rR σ 7) 12 = rF s171 (rR σ 7) 12 → rF s225 (rR σ 7) 38 = rF s171 (rR σ 7) 38 → post_X14_node_t s171 8 (rA s171 1035 (rF s171 0 42)) 0 (rA s171 1036 (rF s171 0 42)) gg v225 s225 → rng ((rF s171 0 42) + 1) ∧ (0 ≤ y171_4 ∧ y171_4 < 50000) ∧ ∃ (B43 : GBt), pre_X14_build (sT (sF s225 0 42 ((rF s171 0 42) + 1)) (rR σ 7) 5 y171_4 v225) gg B43 ∧ rk_X14_build (sT (sF s225 0 42 ((rF s171 0 42) + 1)) (rR σ 7) 5 y171_4 v225) gg B43 ≤ n ∧ (∀ (v266 : Int) (s266 : rS), rng v266 → rWF s266 → (WNp (sT (sF s225 0 42 ((rF s171 0 42) + 1)) (rR σ 7) 5 y171_4 v225) → WNp s266) → rR s266 7 = rR (sT (sF s225 0 42 ((rF s171 0 42) + 1)) (rR σ 7) 5 y171_4 v225) 7 → rF s266 0 14 = rF (sT (sF s225 0 42 ((rF s171 0 42) + 1)) (rR σ 7) 5 y171_4 v225) 0 14 → rF s266 0 38 = rF (sT (sF s225 0 42 ((rF s171 0 42) + 1)) (rR σ 7) 5 y171_4 v225) 0 38 → (∀ i, rA s266 1034 i = rA (sT (sF s225 0 42 ((rF s171 0 42) + 1)) (rR σ 7) 5 y171_4 v225) 1034 i) → (∀ i, rA s266 1035 i = rA (sT (sF s225 0 42 ((rF s171 0 42) + 1)) (rR σ 7) 5 y171_4 v225) 1035 i) → (∀ i, rA s266 1036 i = rA (sT (sF s225 0 42 ((rF s171 0 42) + 1)) (rR σ 7) 5 y171_4 v225) 1036 i) → rF s266 (rR σ 7) 12 = rF (sT (sF s225 0 42 ((rF s171 0 42) + 1)) (rR σ 7) 5 y171_4 v225) (rR σ 7) 12 → rF s266 (rR σ 7) 38 = rF (sT (sF s225 0 42 ((rF s171 0 42) + 1)) (rR σ 7) 5 y171_4 v225) (rR σ 7) 38 → post_X14_build (sT (sF s225 0 42 ((rF s171 0 42) + 1)) (rR σ 7) 5 y171_4 v225) gg B43 v266 s266 → (0 ≤ v225 ∧ v225 < 50000) ∧ (inv_X14_element_171 σ x1 gg B (sT s266 (rR σ 7) 2 v225 v266) y171_3 v225 ∧ (mu_X14_element_171 σ x1 gg B (sT s266 (rR σ 7) 2 v225 v266) y171_3 v225) < (mu_X14_element_171 σ x1 gg B s171 y171_3 y171_4))))))) ∧ ((rA s171 1034 (rF s171 0 42)) = 23 → (0 ≤ (rF s171 0 42) ∧ (rF s171 0 42) < 9000) ∧ (rng (rA s171 1036 (rF s171 0 42)) → pre_X14_node_t s171 8 0 0 (rA s171 1036 (rF s171 0 42)) gg ∧ (∀ (v225 : Int) (s225 : rS), rng v225 → rWF s225 → (WNp s171 → WNp s225) → rR s225 7 = rR s171 7 → rF s225 0 14 = rF s171 0 14 → rF s225 0 38 = rF s171 0 38 → rF s225 0 42 = rF s171 0 42 → (∀ i, rA s225 1034 i = rA s171 1034 i) → (∀ i, rA s225 1035 i = rA s171 1035 i) → (∀ i, rA s225 1036 i = rA s171 1036 i) → rF s225 (rR σ 7) 12 = rF s171 (rR σ 7) 12 → rF s225 (rR σ 7) 38 = rF s171 (rR σ 7) 38 → post_X14_node_t s171 8 0 0 (rA s171 1036 (rF s171 0 42)) gg v225 s225 → rng ((rF s171 0 42) + 1) ∧ (0 ≤ y171_4 ∧ y171_4 < 50000) ∧ ∃ (B54 : GBt), pre_X14_build (sT (sF s225 0 42 ((rF s171 0 42) + 1)) (rR σ 7) 5 y171_4 v225) gg B54 ∧ rk_X14_build (sT (sF s225 0 42 ((rF s171 0 42) + 1)) (rR σ 7) 5 y171_4 v225) gg B54 ≤ n ∧ (∀ (v266 : Int) (s266 : rS), rng v266 → rWF s266 → (WNp (sT (sF s225 0 42 ((rF s171 0 42) + 1)) (rR σ 7) 5 y171_4 v225) → WNp s266) → rR s266 7 = rR (sT (sF s225 0 42 ((rF s171 0 42) + 1)) (rR σ 7) 5 y171_4 v225) 7 → rF s266 0 14 = rF (sT (sF s225 0 42 ((rF s171 0 42) + 1)) (rR σ 7) 5 y171_4 v225) 0 14 → rF s266 0 38 = rF (sT (sF s225 0 42 ((rF s171 0 42) + 1)) (rR σ 7) 5 y171_4 v225) 0 38 → (∀ i, rA s266 1034 i = rA (sT (sF s225 0 42 ((rF s171 0 42) + 1)) (rR σ 7) 5 y171_4 v225) 1034 i) → (∀ i, rA s266 1035 i = rA (sT (sF s225 0 42 ((rF s171 0 42) + 1)) (rR σ 7) 5 y171_4 v225) 1035 i) → (∀ i, rA s266 1036 i = rA (sT (sF s225 0 42 ((rF s171 0 42) + 1)) (rR σ 7) 5 y171_4 v225) 1036 i) → rF s266 (rR σ 7) 12 = rF (sT (sF s225 0 42 ((rF s171 0 42) + 1)) (rR σ 7) 5 y171_4 v225) (rR σ 7) 12 → rF s266 (rR σ 7) 38 = rF (sT (sF s225 0 42 ((rF s171 0 42) + 1)) (rR σ 7) 5 y171_4 v225) (rR σ 7) 38 → post_X14_build (sT (sF s225 0 42 ((rF s171 0 42) + 1)) (rR σ 7) 5 y171_4 v225) gg B54 v266 s266 → (0 ≤ v225 ∧ v225 < 50000) ∧ (inv_X14_element_171 σ x1 gg B (sT s266 (rR σ 7) 2 v225 v266) y171_3 v225 ∧ (mu_X14_element_171 σ x1 gg B (sT s266 (rR σ 7) 2 v225 v266) y171_3 v225) < (mu_X14_element_171 σ x1 gg B s171 y171_3 y171_4))))))))))))
def VC_X14_element_171m (n : Nat) (σ : rS) (x1 : Int) (gg : Nat) (B : GBt) : Prop := ∀ (s171 : rS) (y171_3 : Int) (y171_4 : Int), rWF s171 → rng y171_3 → rng y171_4 → (WNp σ → WNp s171) → rR s171 7 = rR σ 7 → rF s171 0 14 = rF σ 0 14 → rF s171 0 38 = rF σ 0 38 → (∀ i, rA s171 1034 i = rA σ 1034 i) → (∀ i, rA s171 1035 i = rA σ 1035 i) → (∀ i, rA s171 1036 i = rA σ 1036 i) → rF s171 (rR σ 7) 12 = rF σ (rR σ 7) 12 → rF s171 (rR σ 7) 38 = rF σ (rR σ 7) 38 → inv_X14_element_171 σ x1 gg B s171 y171_3 y171_4 → 0 < (mu_X14_element_171 σ x1 gg B s171 y171_3 y171_4)
set_option maxHeartbeats 20000000 in
theorem vX14_build (n : Nat) (σ : rS) (gg : Nat) (B : GBt) (hwf : rWF σ) (hp : pre_X14_build σ gg B) (hr : rk_X14_build σ gg B ≤ n + 1) : VC_X14_build n σ gg B (post_X14_build σ gg B) := by
  unfold pre_X14_build at hp
  obtain ⟨hp_1, hp_2, hp_3, hp_4, hp_5, hp_6, hp_7, hp_8, hp_9, hp_10, hp_11, hp_12⟩ := hp
  subst hp_1
  unfold rk_X14_build at hr
  have hr1 := hr
  have hB20 := hp_11.2.2.2
  unfold VC_X14_build
  refine ⟨(by (all_goals (repeat' (first | with_reducible intro _ | with_reducible apply And.intro))); all_goals (first | assumption | trivial | omega | (have zz_ := fz_z (by assumption); omega) | (split <;> omega) | (unfold BLI; first | exact I6 | exact ⟨_, _, _, J14⟩ | exact ⟨_, _, _, J14.skip (by omega) (stp_o (by omega))⟩ | exact BLX.h0 hp_2 J14 q114_7 (by omega) (by omega) (by omega) | exact BLX.h1 hp_2 J14 q114_7 (by omega) (by omega) (by omega)) | (unfold clo; omega) | (unfold BPre; exact BLX.pre J14) | (exact BLI.out (B := B) ⟨_, _, _, J14⟩ (Or.inr ⟨by omega, (I14_9 (by omega)).2⟩)) | (exact BLI.out (B := B) ⟨_, _, _, J14⟩ (Or.inl (by omega))) | done)), ?_⟩
  refine ⟨(by (try simp only [pre_X14_node_t]); (all_goals (repeat' (first | with_reducible intro _ | with_reducible apply And.intro))); all_goals (first | assumption | trivial | omega | (have zz_ := fz_z (by assumption); omega) | (split <;> omega) | (unfold BLI; first | exact I6 | exact ⟨_, _, _, J14⟩ | exact ⟨_, _, _, J14.skip (by omega) (stp_o (by omega))⟩ | exact BLX.h0 hp_2 J14 q114_7 (by omega) (by omega) (by omega) | exact BLX.h1 hp_2 J14 q114_7 (by omega) (by omega) (by omega)) | (unfold clo; omega) | (unfold BPre; exact BLX.pre J14) | (exact BLI.out (B := B) ⟨_, _, _, J14⟩ (Or.inr ⟨by omega, (I14_9 (by omega)).2⟩)) | (exact BLI.out (B := B) ⟨_, _, _, J14⟩ (Or.inl (by omega))) | done)), ?_⟩
  intro v6 s6 hv6 Ws6 e6_0 e6_1 e6_2 e6_3 e6_4 e6_5 e6_6 e6_7 e6_8 e6_9 q6
  unfold rng at hv6
  unfold post_X14_node_t at q6
  obtain ⟨q6_1, q6_2, q6_3, q6_4, q6_5, q6_6, q6_7, q6_8, q6_9, q6_10⟩ := q6
  have Ks6 : rR s6 7 = rR σ 7 := by first | assumption | ((try simp only [rR_sF, rR_sA, rR_sT, rR_sL] at e6_0 e6_1 e6_2 e6_3 e6_4 e6_5 e6_6 e6_7 e6_8 e6_9); omega)
  have WNp_6 := e6_0 hp_10; clear e6_0
  have D6 : ND σ s6 (rR σ 7) v6 9 0 0 := ⟨q6_3, q6_1, q6_2, q6_4, q6_5, q6_6, q6_9, by omega, by omega, by omega⟩
  have I6 := BLI.init hp_2 hp_11 D6 (by omega) (by omega)
  subst q6_1
  exact (by (try simp only [inv_X14_build_14, Ks6]); (all_goals (repeat' (first | with_reducible intro _ | with_reducible apply And.intro))); all_goals (first | assumption | trivial | omega | (have zz_ := fz_z (by assumption); omega) | (split <;> omega) | (unfold BLI; first | exact I6 | exact ⟨_, _, _, J14⟩ | exact ⟨_, _, _, J14.skip (by omega) (stp_o (by omega))⟩ | exact BLX.h0 hp_2 J14 q114_7 (by omega) (by omega) (by omega) | exact BLX.h1 hp_2 J14 q114_7 (by omega) (by omega) (by omega)) | (unfold clo; omega) | (unfold BPre; exact BLX.pre J14) | (exact BLI.out (B := B) ⟨_, _, _, J14⟩ (Or.inr ⟨by omega, (I14_9 (by omega)).2⟩)) | (exact BLI.out (B := B) ⟨_, _, _, J14⟩ (Or.inl (by omega))) | done))
set_option maxHeartbeats 20000000 in
theorem vX14_build_14 (n : Nat) (σ : rS) (gg : Nat) (B : GBt) (hwf : rWF σ) (hp : pre_X14_build σ gg B) (hr : rk_X14_build σ gg B ≤ n + 1) : VC_X14_build_14 n σ gg B (post_X14_build σ gg B) := by
  unfold pre_X14_build at hp
  obtain ⟨hp_1, hp_2, hp_3, hp_4, hp_5, hp_6, hp_7, hp_8, hp_9, hp_10, hp_11, hp_12⟩ := hp
  subst hp_1
  unfold rk_X14_build at hr
  have hr1 := hr
  have hB20 := hp_11.2.2.2
  unfold VC_X14_build_14
  intro s14 y14_1 y14_2 y14_3 Ws14 hy14_1 hy14_2 hy14_3 e14_0 e14_1 e14_2 e14_3 e14_4 e14_5 e14_6 e14_7 e14_8 I14
  have Ks14 : rR s14 7 = rR σ 7 := by omega
  unfold inv_X14_build_14 at I14
  obtain ⟨I14_1, I14_2, I14_3, I14_4, I14_5, I14_6, I14_7, I14_8, I14_9, I14_10, I14_11⟩ := I14
  (try simp only [Ks14] at I14_1 I14_2 I14_3 I14_4 I14_5 I14_6 I14_7 I14_8 I14_9 I14_10 I14_11)
  have WNp_14 := e14_0 hp_10; clear e14_0
  subst I14_1
  obtain ⟨h14, n14, x14, J14⟩ := I14_10
  refine ⟨fun c15 => ?_, fun c15 => ?_⟩
  · exact (by (try simp only [post_X14_build, Ks14]); (all_goals (repeat' (first | with_reducible intro _ | with_reducible apply And.intro))); all_goals (first | assumption | trivial | omega | (have zz_ := fz_z (by assumption); omega) | (split <;> omega) | (unfold BLI; first | exact I6 | exact ⟨_, _, _, J14⟩ | exact ⟨_, _, _, J14.skip (by omega) (stp_o (by omega))⟩ | exact BLX.h0 hp_2 J14 q114_7 (by omega) (by omega) (by omega) | exact BLX.h1 hp_2 J14 q114_7 (by omega) (by omega) (by omega)) | (unfold clo; omega) | (unfold BPre; exact BLX.pre J14) | (exact BLI.out (B := B) ⟨_, _, _, J14⟩ (Or.inr ⟨by omega, (I14_9 (by omega)).2⟩)) | (exact BLI.out (B := B) ⟨_, _, _, J14⟩ (Or.inl (by omega))) | done))
  · intro hr_; unfold rng at hr_
    intro hr_; unfold rng at hr_
    refine ⟨fun c26 => ?_, fun c26 => ?_⟩
    · exact (by (try simp only [post_X14_build, Ks14]); (all_goals (repeat' (first | with_reducible intro _ | with_reducible apply And.intro))); all_goals (first | assumption | trivial | omega | (have zz_ := fz_z (by assumption); omega) | (split <;> omega) | (unfold BLI; first | exact I6 | exact ⟨_, _, _, J14⟩ | exact ⟨_, _, _, J14.skip (by omega) (stp_o (by omega))⟩ | exact BLX.h0 hp_2 J14 q114_7 (by omega) (by omega) (by omega) | exact BLX.h1 hp_2 J14 q114_7 (by omega) (by omega) (by omega)) | (unfold clo; omega) | (unfold BPre; exact BLX.pre J14) | (exact BLI.out (B := B) ⟨_, _, _, J14⟩ (Or.inr ⟨by omega, (I14_9 (by omega)).2⟩)) | (exact BLI.out (B := B) ⟨_, _, _, J14⟩ (Or.inl (by omega))) | done))
    · refine ⟨(by (try simp only [Ks14]); (all_goals (repeat' (first | with_reducible intro _ | with_reducible apply And.intro))); all_goals (first | assumption | trivial | omega | (have zz_ := fz_z (by assumption); omega) | (split <;> omega) | (unfold BLI; first | exact I6 | exact ⟨_, _, _, J14⟩ | exact ⟨_, _, _, J14.skip (by omega) (stp_o (by omega))⟩ | exact BLX.h0 hp_2 J14 q114_7 (by omega) (by omega) (by omega) | exact BLX.h1 hp_2 J14 q114_7 (by omega) (by omega) (by omega)) | (unfold clo; omega) | (unfold BPre; exact BLX.pre J14) | (exact BLI.out (B := B) ⟨_, _, _, J14⟩ (Or.inr ⟨by omega, (I14_9 (by omega)).2⟩)) | (exact BLI.out (B := B) ⟨_, _, _, J14⟩ (Or.inl (by omega))) | done)), ?_⟩
      intro hr_; unfold rng at hr_
      refine ⟨fun c44 => ?_, fun c44 => ?_⟩
      · exact (by (try simp only [inv_X14_build_14, mu_X14_build_14, mu_X14_build_14, Ks14]); (all_goals (repeat' (first | with_reducible intro _ | with_reducible apply And.intro))); all_goals (first | assumption | trivial | omega | (have zz_ := fz_z (by assumption); omega) | (split <;> omega) | (unfold BLI; first | exact I6 | exact ⟨_, _, _, J14⟩ | exact ⟨_, _, _, J14.skip (by omega) (stp_o (by omega))⟩ | exact BLX.h0 hp_2 J14 q114_7 (by omega) (by omega) (by omega) | exact BLX.h1 hp_2 J14 q114_7 (by omega) (by omega) (by omega)) | (unfold clo; omega) | (unfold BPre; exact BLX.pre J14) | (exact BLI.out (B := B) ⟨_, _, _, J14⟩ (Or.inr ⟨by omega, (I14_9 (by omega)).2⟩)) | (exact BLI.out (B := B) ⟨_, _, _, J14⟩ (Or.inl (by omega))) | done))
      · refine ⟨fun c51 => ?_, fun c51 => ?_⟩
        · exact (by (try simp only [inv_X14_build_14, mu_X14_build_14, mu_X14_build_14, Ks14]); (all_goals (repeat' (first | with_reducible intro _ | with_reducible apply And.intro))); all_goals (first | assumption | trivial | omega | (have zz_ := fz_z (by assumption); omega) | (split <;> omega) | (unfold BLI; first | exact I6 | exact ⟨_, _, _, J14⟩ | exact ⟨_, _, _, J14.skip (by omega) (stp_o (by omega))⟩ | exact BLX.h0 hp_2 J14 q114_7 (by omega) (by omega) (by omega) | exact BLX.h1 hp_2 J14 q114_7 (by omega) (by omega) (by omega)) | (unfold clo; omega) | (unfold BPre; exact BLX.pre J14) | (exact BLI.out (B := B) ⟨_, _, _, J14⟩ (Or.inr ⟨by omega, (I14_9 (by omega)).2⟩)) | (exact BLI.out (B := B) ⟨_, _, _, J14⟩ (Or.inl (by omega))) | done))
        · refine ⟨fun c58 => ?_, fun c58 => ?_⟩
          · exact (by (try simp only [inv_X14_build_14, mu_X14_build_14, mu_X14_build_14, Ks14]); (all_goals (repeat' (first | with_reducible intro _ | with_reducible apply And.intro))); all_goals (first | assumption | trivial | omega | (have zz_ := fz_z (by assumption); omega) | (split <;> omega) | (unfold BLI; first | exact I6 | exact ⟨_, _, _, J14⟩ | exact ⟨_, _, _, J14.skip (by omega) (stp_o (by omega))⟩ | exact BLX.h0 hp_2 J14 q114_7 (by omega) (by omega) (by omega) | exact BLX.h1 hp_2 J14 q114_7 (by omega) (by omega) (by omega)) | (unfold clo; omega) | (unfold BPre; exact BLX.pre J14) | (exact BLI.out (B := B) ⟨_, _, _, J14⟩ (Or.inr ⟨by omega, (I14_9 (by omega)).2⟩)) | (exact BLI.out (B := B) ⟨_, _, _, J14⟩ (Or.inl (by omega))) | done))
          · refine ⟨fun c65 => ?_, fun c65 => ?_⟩
            · exact (by (try simp only [inv_X14_build_14, mu_X14_build_14, mu_X14_build_14, Ks14]); (all_goals (repeat' (first | with_reducible intro _ | with_reducible apply And.intro))); all_goals (first | assumption | trivial | omega | (have zz_ := fz_z (by assumption); omega) | (split <;> omega) | (unfold BLI; first | exact I6 | exact ⟨_, _, _, J14⟩ | exact ⟨_, _, _, J14.skip (by omega) (stp_o (by omega))⟩ | exact BLX.h0 hp_2 J14 q114_7 (by omega) (by omega) (by omega) | exact BLX.h1 hp_2 J14 q114_7 (by omega) (by omega) (by omega)) | (unfold clo; omega) | (unfold BPre; exact BLX.pre J14) | (exact BLI.out (B := B) ⟨_, _, _, J14⟩ (Or.inr ⟨by omega, (I14_9 (by omega)).2⟩)) | (exact BLI.out (B := B) ⟨_, _, _, J14⟩ (Or.inl (by omega))) | done))
            · have wn_ := WNp_14
              unfold WNp at wn_
              obtain ⟨wn1, wn2, wn3, wn4, wn5⟩ := wn_ (rF s14 0 42) (by omega) (by omega)
              clear wn_
              refine ⟨(by (try simp only [Ks14]); (all_goals (repeat' (first | with_reducible intro _ | with_reducible apply And.intro))); all_goals (first | assumption | trivial | omega | (have zz_ := fz_z (by assumption); omega) | (split <;> omega) | (unfold BLI; first | exact I6 | exact ⟨_, _, _, J14⟩ | exact ⟨_, _, _, J14.skip (by omega) (stp_o (by omega))⟩ | exact BLX.h0 hp_2 J14 q114_7 (by omega) (by omega) (by omega) | exact BLX.h1 hp_2 J14 q114_7 (by omega) (by omega) (by omega)) | (unfold clo; omega) | (unfold BPre; exact BLX.pre J14) | (exact BLI.out (B := B) ⟨_, _, _, J14⟩ (Or.inr ⟨by omega, (I14_9 (by omega)).2⟩)) | (exact BLI.out (B := B) ⟨_, _, _, J14⟩ (Or.inl (by omega))) | done)), ?_⟩
              intro hr_; unfold rng at hr_
              refine ⟨fun c90 => ?_, fun c90 => ?_⟩
              · refine ⟨(by (try simp only [rng, Ks14]); (all_goals (repeat' (first | with_reducible intro _ | with_reducible apply And.intro))); all_goals (first | assumption | trivial | omega | (have zz_ := fz_z (by assumption); omega) | (split <;> omega) | (unfold BLI; first | exact I6 | exact ⟨_, _, _, J14⟩ | exact ⟨_, _, _, J14.skip (by omega) (stp_o (by omega))⟩ | exact BLX.h0 hp_2 J14 q114_7 (by omega) (by omega) (by omega) | exact BLX.h1 hp_2 J14 q114_7 (by omega) (by omega) (by omega)) | (unfold clo; omega) | (unfold BPre; exact BLX.pre J14) | (exact BLI.out (B := B) ⟨_, _, _, J14⟩ (Or.inr ⟨by omega, (I14_9 (by omega)).2⟩)) | (exact BLI.out (B := B) ⟨_, _, _, J14⟩ (Or.inl (by omega))) | done)), ?_⟩
                exact (by (try simp only [inv_X14_build_14, mu_X14_build_14, mu_X14_build_14, reduceIte, and_true, true_and, and_false, false_and, and_self, Nat.reduceEqDiff, fz_sF42, rF_sF, rA_sF, rR_sF, tr_sF, rNMp_sF, PNp_sF, GS_F42, OP_F42, NR_F42, LI_F42, RG_l42, RG_r42, TPRp_sF42, WNp_sF42, VMp_sF42, KYp_sF42, PPp_sF42, WFp_sF42, CCp_sF42, Ks14]); (all_goals (repeat' (first | with_reducible intro _ | with_reducible apply And.intro))); all_goals (first | assumption | trivial | omega | (have zz_ := fz_z (by assumption); omega) | (split <;> omega) | (unfold BLI; first | exact I6 | exact ⟨_, _, _, J14⟩ | exact ⟨_, _, _, J14.skip (by omega) (stp_o (by omega))⟩ | exact BLX.h0 hp_2 J14 q114_7 (by omega) (by omega) (by omega) | exact BLX.h1 hp_2 J14 q114_7 (by omega) (by omega) (by omega)) | (unfold clo; omega) | (unfold BPre; exact BLX.pre J14) | (exact BLI.out (B := B) ⟨_, _, _, J14⟩ (Or.inr ⟨by omega, (I14_9 (by omega)).2⟩)) | (exact BLI.out (B := B) ⟨_, _, _, J14⟩ (Or.inl (by omega))) | done))
              · refine ⟨fun c97 => ?_, fun c97 => ?_⟩
                · refine ⟨(by (try simp only [rng, Ks14]); (all_goals (repeat' (first | with_reducible intro _ | with_reducible apply And.intro))); all_goals (first | assumption | trivial | omega | (have zz_ := fz_z (by assumption); omega) | (split <;> omega) | (unfold BLI; first | exact I6 | exact ⟨_, _, _, J14⟩ | exact ⟨_, _, _, J14.skip (by omega) (stp_o (by omega))⟩ | exact BLX.h0 hp_2 J14 q114_7 (by omega) (by omega) (by omega) | exact BLX.h1 hp_2 J14 q114_7 (by omega) (by omega) (by omega)) | (unfold clo; omega) | (unfold BPre; exact BLX.pre J14) | (exact BLI.out (B := B) ⟨_, _, _, J14⟩ (Or.inr ⟨by omega, (I14_9 (by omega)).2⟩)) | (exact BLI.out (B := B) ⟨_, _, _, J14⟩ (Or.inl (by omega))) | done)), ?_⟩
                  exact (by (try simp only [inv_X14_build_14, mu_X14_build_14, mu_X14_build_14, reduceIte, and_true, true_and, and_false, false_and, and_self, Nat.reduceEqDiff, fz_sF42, rF_sF, rA_sF, rR_sF, tr_sF, rNMp_sF, PNp_sF, GS_F42, OP_F42, NR_F42, LI_F42, RG_l42, RG_r42, TPRp_sF42, WNp_sF42, VMp_sF42, KYp_sF42, PPp_sF42, WFp_sF42, CCp_sF42, Ks14]); (all_goals (repeat' (first | with_reducible intro _ | with_reducible apply And.intro))); all_goals (first | assumption | trivial | omega | (have zz_ := fz_z (by assumption); omega) | (split <;> omega) | (unfold BLI; first | exact I6 | exact ⟨_, _, _, J14⟩ | exact ⟨_, _, _, J14.skip (by omega) (stp_o (by omega))⟩ | exact BLX.h0 hp_2 J14 q114_7 (by omega) (by omega) (by omega) | exact BLX.h1 hp_2 J14 q114_7 (by omega) (by omega) (by omega)) | (unfold clo; omega) | (unfold BPre; exact BLX.pre J14) | (exact BLI.out (B := B) ⟨_, _, _, J14⟩ (Or.inr ⟨by omega, (I14_9 (by omega)).2⟩)) | (exact BLI.out (B := B) ⟨_, _, _, J14⟩ (Or.inl (by omega))) | done))
                · refine ⟨fun c104 => ?_, fun c104 => ?_⟩
                  · refine ⟨(h14, (B.2.1, (n14, (B.2.2.2.1, (x14, B.2.2.2.2.2))))), ?_⟩
                    refine ⟨(by (try simp only [pre_X14_element, Ks14]); (all_goals (repeat' (first | with_reducible intro _ | with_reducible apply And.intro))); all_goals (first | assumption | trivial | omega | (have zz_ := fz_z (by assumption); omega) | (split <;> omega) | (unfold BLI; first | exact I6 | exact ⟨_, _, _, J14⟩ | exact ⟨_, _, _, J14.skip (by omega) (stp_o (by omega))⟩ | exact BLX.h0 hp_2 J14 q114_7 (by omega) (by omega) (by omega) | exact BLX.h1 hp_2 J14 q114_7 (by omega) (by omega) (by omega)) | (unfold clo; omega) | (unfold BPre; exact BLX.pre J14) | (exact BLI.out (B := B) ⟨_, _, _, J14⟩ (Or.inr ⟨by omega, (I14_9 (by omega)).2⟩)) | (exact BLI.out (B := B) ⟨_, _, _, J14⟩ (Or.inl (by omega))) | done)), ?_⟩
                    refine ⟨(by (try simp only [rk_X14_element, Ks14]); (all_goals (repeat' (first | with_reducible intro _ | with_reducible apply And.intro))); all_goals (first | assumption | trivial | omega | (have zz_ := fz_z (by assumption); omega) | (split <;> omega) | (unfold BLI; first | exact I6 | exact ⟨_, _, _, J14⟩ | exact ⟨_, _, _, J14.skip (by omega) (stp_o (by omega))⟩ | exact BLX.h0 hp_2 J14 q114_7 (by omega) (by omega) (by omega) | exact BLX.h1 hp_2 J14 q114_7 (by omega) (by omega) (by omega)) | (unfold clo; omega) | (unfold BPre; exact BLX.pre J14) | (exact BLI.out (B := B) ⟨_, _, _, J14⟩ (Or.inr ⟨by omega, (I14_9 (by omega)).2⟩)) | (exact BLI.out (B := B) ⟨_, _, _, J14⟩ (Or.inl (by omega))) | done)), ?_⟩
                    intro v114 s114 hv114 Ws114 e114_0 e114_1 e114_2 e114_3 e114_4 e114_5 e114_6 e114_7 e114_8 q114
                    unfold rng at hv114
                    unfold post_X14_element at q114
                    obtain ⟨q114_1, q114_2, q114_3, q114_4, q114_5, q114_6, q114_7, q114_8⟩ := q114
                    (try simp only [Ks14] at q114_1 q114_2 q114_3 q114_4 q114_5 q114_6 q114_7 q114_8 e114_0 e114_1 e114_2 e114_3 e114_4 e114_5 e114_6 e114_7 e114_8)
                    have Ks114 : rR s114 7 = rR σ 7 := by first | assumption | ((try simp only [rR_sF, rR_sA, rR_sT, rR_sL] at e114_0 e114_1 e114_2 e114_3 e114_4 e114_5 e114_6 e114_7 e114_8); omega)
                    have WNp_114 := e114_0 WNp_14; clear e114_0
                    refine ⟨fun c121 => ?_, fun c121 => ?_⟩
                    · refine ⟨fun c138 => ?_, fun c138 => ?_⟩
                      · refine ⟨(by (try simp only [Ks114]); (all_goals (repeat' (first | with_reducible intro _ | with_reducible apply And.intro))); all_goals (first | assumption | trivial | omega | (have zz_ := fz_z (by assumption); omega) | (split <;> omega) | (unfold BLI; first | exact I6 | exact ⟨_, _, _, J14⟩ | exact ⟨_, _, _, J14.skip (by omega) (stp_o (by omega))⟩ | exact BLX.h0 hp_2 J14 q114_7 (by omega) (by omega) (by omega) | exact BLX.h1 hp_2 J14 q114_7 (by omega) (by omega) (by omega)) | (unfold clo; omega) | (unfold BPre; exact BLX.pre J14) | (exact BLI.out (B := B) ⟨_, _, _, J14⟩ (Or.inr ⟨by omega, (I14_9 (by omega)).2⟩)) | (exact BLI.out (B := B) ⟨_, _, _, J14⟩ (Or.inl (by omega))) | done)), ?_⟩
                        exact (by (try simp only [inv_X14_build_14, mu_X14_build_14, mu_X14_build_14, reduceIte, and_true, true_and, and_false, false_and, and_self, Nat.reduceEqDiff, fz_sA, rF_sA, rA_sA, rR_sA, rF_sT, rR_sT, sT_sF, fz_sT, rA_sT26 hp_2, rA_sT27 hp_2, rA_sT34 hp_2, rA_sT35 hp_2, rA_sT36 hp_2, rA_sT37 hp_2, rA_sT40 hp_2, TPRp_sT hp_2, WNp_sT hp_2, VMp_sT hp_2, KYp_sT hp_2, PPp_sT hp_2, WFp_sT hp_2, CCp_sT hp_2, rNMp_sT5, PNp_sT5, Ks114]); (all_goals (repeat' (first | with_reducible intro _ | with_reducible apply And.intro))); all_goals (first | assumption | trivial | omega | (have zz_ := fz_z (by assumption); omega) | (split <;> omega) | (unfold BLI; first | exact I6 | exact ⟨_, _, _, J14⟩ | exact ⟨_, _, _, J14.skip (by omega) (stp_o (by omega))⟩ | exact BLX.h0 hp_2 J14 q114_7 (by omega) (by omega) (by omega) | exact BLX.h1 hp_2 J14 q114_7 (by omega) (by omega) (by omega)) | (unfold clo; omega) | (unfold BPre; exact BLX.pre J14) | (exact BLI.out (B := B) ⟨_, _, _, J14⟩ (Or.inr ⟨by omega, (I14_9 (by omega)).2⟩)) | (exact BLI.out (B := B) ⟨_, _, _, J14⟩ (Or.inl (by omega))) | done))
                      · refine ⟨(by (try simp only [Ks114]); (all_goals (repeat' (first | with_reducible intro _ | with_reducible apply And.intro))); all_goals (first | assumption | trivial | omega | (have zz_ := fz_z (by assumption); omega) | (split <;> omega) | (unfold BLI; first | exact I6 | exact ⟨_, _, _, J14⟩ | exact ⟨_, _, _, J14.skip (by omega) (stp_o (by omega))⟩ | exact BLX.h0 hp_2 J14 q114_7 (by omega) (by omega) (by omega) | exact BLX.h1 hp_2 J14 q114_7 (by omega) (by omega) (by omega)) | (unfold clo; omega) | (unfold BPre; exact BLX.pre J14) | (exact BLI.out (B := B) ⟨_, _, _, J14⟩ (Or.inr ⟨by omega, (I14_9 (by omega)).2⟩)) | (exact BLI.out (B := B) ⟨_, _, _, J14⟩ (Or.inl (by omega))) | done)), ?_⟩
                        exact (by (try simp only [inv_X14_build_14, mu_X14_build_14, mu_X14_build_14, reduceIte, and_true, true_and, and_false, false_and, and_self, Nat.reduceEqDiff, fz_sA, rF_sA, rA_sA, rR_sA, rF_sT, rR_sT, sT_sF, fz_sT, rA_sT26 hp_2, rA_sT27 hp_2, rA_sT34 hp_2, rA_sT35 hp_2, rA_sT36 hp_2, rA_sT37 hp_2, rA_sT40 hp_2, TPRp_sT hp_2, WNp_sT hp_2, VMp_sT hp_2, KYp_sT hp_2, PPp_sT hp_2, WFp_sT hp_2, CCp_sT hp_2, rNMp_sT1, PNp_sT1, Ks114]); (all_goals (repeat' (first | with_reducible intro _ | with_reducible apply And.intro))); all_goals (first | assumption | trivial | omega | (have zz_ := fz_z (by assumption); omega) | (split <;> omega) | (unfold BLI; first | exact I6 | exact ⟨_, _, _, J14⟩ | exact ⟨_, _, _, J14.skip (by omega) (stp_o (by omega))⟩ | exact BLX.h0 hp_2 J14 q114_7 (by omega) (by omega) (by omega) | exact BLX.h1 hp_2 J14 q114_7 (by omega) (by omega) (by omega)) | (unfold clo; omega) | (unfold BPre; exact BLX.pre J14) | (exact BLI.out (B := B) ⟨_, _, _, J14⟩ (Or.inr ⟨by omega, (I14_9 (by omega)).2⟩)) | (exact BLI.out (B := B) ⟨_, _, _, J14⟩ (Or.inl (by omega))) | done))
                    · intro hr_; unfold rng at hr_
                      refine ⟨(by (try simp only [rng, Ks114]); (all_goals (repeat' (first | with_reducible intro _ | with_reducible apply And.intro))); all_goals (first | assumption | trivial | omega | (have zz_ := fz_z (by assumption); omega) | (split <;> omega) | (unfold BLI; first | exact I6 | exact ⟨_, _, _, J14⟩ | exact ⟨_, _, _, J14.skip (by omega) (stp_o (by omega))⟩ | exact BLX.h0 hp_2 J14 q114_7 (by omega) (by omega) (by omega) | exact BLX.h1 hp_2 J14 q114_7 (by omega) (by omega) (by omega)) | (unfold clo; omega) | (unfold BPre; exact BLX.pre J14) | (exact BLI.out (B := B) ⟨_, _, _, J14⟩ (Or.inr ⟨by omega, (I14_9 (by omega)).2⟩)) | (exact BLI.out (B := B) ⟨_, _, _, J14⟩ (Or.inl (by omega))) | done)), ?_⟩
                      exact (by (try simp only [inv_X14_build_14, mu_X14_build_14, mu_X14_build_14, reduceIte, and_true, true_and, and_false, false_and, and_self, Nat.reduceEqDiff, fz_sF42, rF_sF, rA_sF, rR_sF, tr_sF, rNMp_sF, PNp_sF, GS_F42, OP_F42, NR_F42, LI_F42, RG_l42, RG_r42, TPRp_sF42, WNp_sF42, VMp_sF42, KYp_sF42, PPp_sF42, WFp_sF42, CCp_sF42, Ks114]); (all_goals (repeat' (first | with_reducible intro _ | with_reducible apply And.intro))); all_goals (first | assumption | trivial | omega | (have zz_ := fz_z (by assumption); omega) | (split <;> omega) | (unfold BLI; first | exact I6 | exact ⟨_, _, _, J14⟩ | exact ⟨_, _, _, J14.skip (by omega) (stp_o (by omega))⟩ | exact BLX.h0 hp_2 J14 q114_7 (by omega) (by omega) (by omega) | exact BLX.h1 hp_2 J14 q114_7 (by omega) (by omega) (by omega)) | (unfold clo; omega) | (unfold BPre; exact BLX.pre J14) | (exact BLI.out (B := B) ⟨_, _, _, J14⟩ (Or.inr ⟨by omega, (I14_9 (by omega)).2⟩)) | (exact BLI.out (B := B) ⟨_, _, _, J14⟩ (Or.inl (by omega))) | done))
                  · refine ⟨(by (try simp only [rng, Ks14]); (all_goals (repeat' (first | with_reducible intro _ | with_reducible apply And.intro))); all_goals (first | assumption | trivial | omega | (have zz_ := fz_z (by assumption); omega) | (split <;> omega) | (unfold BLI; first | exact I6 | exact ⟨_, _, _, J14⟩ | exact ⟨_, _, _, J14.skip (by omega) (stp_o (by omega))⟩ | exact BLX.h0 hp_2 J14 q114_7 (by omega) (by omega) (by omega) | exact BLX.h1 hp_2 J14 q114_7 (by omega) (by omega) (by omega)) | (unfold clo; omega) | (unfold BPre; exact BLX.pre J14) | (exact BLI.out (B := B) ⟨_, _, _, J14⟩ (Or.inr ⟨by omega, (I14_9 (by omega)).2⟩)) | (exact BLI.out (B := B) ⟨_, _, _, J14⟩ (Or.inl (by omega))) | done)), ?_⟩
                    exact (by (try simp only [inv_X14_build_14, mu_X14_build_14, mu_X14_build_14, reduceIte, and_true, true_and, and_false, false_and, and_self, Nat.reduceEqDiff, fz_sF42, rF_sF, rA_sF, rR_sF, tr_sF, rNMp_sF, PNp_sF, GS_F42, OP_F42, NR_F42, LI_F42, RG_l42, RG_r42, TPRp_sF42, WNp_sF42, VMp_sF42, KYp_sF42, PPp_sF42, WFp_sF42, CCp_sF42, Ks14]); (all_goals (repeat' (first | with_reducible intro _ | with_reducible apply And.intro))); all_goals (first | assumption | trivial | omega | (have zz_ := fz_z (by assumption); omega) | (split <;> omega) | (unfold BLI; first | exact I6 | exact ⟨_, _, _, J14⟩ | exact ⟨_, _, _, J14.skip (by omega) (stp_o (by omega))⟩ | exact BLX.h0 hp_2 J14 q114_7 (by omega) (by omega) (by omega) | exact BLX.h1 hp_2 J14 q114_7 (by omega) (by omega) (by omega)) | (unfold clo; omega) | (unfold BPre; exact BLX.pre J14) | (exact BLI.out (B := B) ⟨_, _, _, J14⟩ (Or.inr ⟨by omega, (I14_9 (by omega)).2⟩)) | (exact BLI.out (B := B) ⟨_, _, _, J14⟩ (Or.inl (by omega))) | done))
set_option maxHeartbeats 20000000 in
theorem vX14_build_14m (n : Nat) (σ : rS) (gg : Nat) (B : GBt) (hwf : rWF σ) (hp : pre_X14_build σ gg B) (hr : rk_X14_build σ gg B ≤ n + 1) : VC_X14_build_14m n σ gg B := by
  unfold pre_X14_build at hp
  obtain ⟨hp_1, hp_2, hp_3, hp_4, hp_5, hp_6, hp_7, hp_8, hp_9, hp_10, hp_11, hp_12⟩ := hp
  subst hp_1
  unfold rk_X14_build at hr
  have hr1 := hr
  have hB20 := hp_11.2.2.2
  unfold VC_X14_build_14m
  (try simp only [inv_X14_build_14, mu_X14_build_14]); (all_goals (repeat' (first | with_reducible intro _ | with_reducible apply And.intro))); all_goals (first | assumption | omega | grind (splits := 20))
set_option maxHeartbeats 20000000 in
theorem vX14_element (n : Nat) (σ : rS) (x1 : Int) (gg : Nat) (B : GBt) (hwf : rWF σ) (hx1 : rng x1) (hp : pre_X14_element σ x1 gg B) (hr : rk_X14_element σ x1 gg B ≤ n + 1) : VC_X14_element n σ x1 gg B (post_X14_element σ x1 gg B) := by
  unfold pre_X14_element at hp
  obtain ⟨hp_1, hp_2, hp_3, hp_4, hp_5, hp_6, hp_7, hp_8, hp_9, hp_10, hp_11, hp_12, hp_13, hp_14⟩ := hp
  unfold rng at hx1
  subst hp_1
  unfold rk_X14_element at hr
  have wn_ := hp_10
  unfold WNp at wn_
  obtain ⟨wn1, wn2, wn3, wn4, wn5⟩ := wn_ (rF σ 0 42) (by omega) (by omega)
  clear wn_
  unfold VC_X14_element
  refine ⟨(by (all_goals (repeat' (first | with_reducible intro _ | with_reducible apply And.intro))); all_goals (first | assumption | trivial | omega | (have zz_ := fz_z (by assumption); omega) | (split <;> omega) | (unfold BPre; exact M2) | (unfold ELI MID; exact ⟨⟨_, _, _, _, T1⟩, T2, by rw [rA_sT34 hp_2, rF_sT]; exact T3⟩) | (exact EL.word hp_11 hp_6 hp_12.symm (by omega)) | (exact EL.out I171_9 (by omega) (by omega)) | done)), ?_⟩
  intro hr_; unfold rng at hr_
  refine ⟨(by (try simp only [rng]); (all_goals (repeat' (first | with_reducible intro _ | with_reducible apply And.intro))); all_goals (first | assumption | trivial | omega | (have zz_ := fz_z (by assumption); omega) | (split <;> omega) | (unfold BPre; exact M2) | (unfold ELI MID; exact ⟨⟨_, _, _, _, T1⟩, T2, by rw [rA_sT34 hp_2, rF_sT]; exact T3⟩) | (exact EL.word hp_11 hp_6 hp_12.symm (by omega)) | (exact EL.out I171_9 (by omega) (by omega)) | done)), ?_⟩
  refine ⟨fun c17 => ?_, fun c17 => ?_⟩
  · refine ⟨(by (try simp only [reduceIte, and_true, true_and, and_false, false_and, and_self, Nat.reduceEqDiff, fz_sF42, rF_sF, rA_sF, rR_sF, tr_sF, rNMp_sF, PNp_sF, GS_F42, OP_F42, NR_F42, LI_F42, RG_l42, RG_r42, TPRp_sF42, WNp_sF42, VMp_sF42, KYp_sF42, PPp_sF42, WFp_sF42, CCp_sF42]); (all_goals (repeat' (first | with_reducible intro _ | with_reducible apply And.intro))); all_goals (first | assumption | trivial | omega | (have zz_ := fz_z (by assumption); omega) | (split <;> omega) | (unfold BPre; exact M2) | (unfold ELI MID; exact ⟨⟨_, _, _, _, T1⟩, T2, by rw [rA_sT34 hp_2, rF_sT]; exact T3⟩) | (exact EL.word hp_11 hp_6 hp_12.symm (by omega)) | (exact EL.out I171_9 (by omega) (by omega)) | done)), ?_⟩
    intro hr_; unfold rng at hr_
    refine ⟨(by (try simp only [reduceIte, and_true, true_and, and_false, false_and, and_self, Nat.reduceEqDiff, fz_sF42, rF_sF, rA_sF, rR_sF, tr_sF, rNMp_sF, PNp_sF, GS_F42, OP_F42, NR_F42, LI_F42, RG_l42, RG_r42, TPRp_sF42, WNp_sF42, VMp_sF42, KYp_sF42, PPp_sF42, WFp_sF42, CCp_sF42]); (all_goals (repeat' (first | with_reducible intro _ | with_reducible apply And.intro))); all_goals (first | assumption | trivial | omega | (have zz_ := fz_z (by assumption); omega) | (split <;> omega) | (unfold BPre; exact M2) | (unfold ELI MID; exact ⟨⟨_, _, _, _, T1⟩, T2, by rw [rA_sT34 hp_2, rF_sT]; exact T3⟩) | (exact EL.word hp_11 hp_6 hp_12.symm (by omega)) | (exact EL.out I171_9 (by omega) (by omega)) | done)), ?_⟩
    intro hr_; unfold rng at hr_
    refine ⟨(by (try simp only [pre_X14_node_t, reduceIte, and_true, true_and, and_false, false_and, and_self, Nat.reduceEqDiff, fz_sF42, rF_sF, rA_sF, rR_sF, tr_sF, rNMp_sF, PNp_sF, GS_F42, OP_F42, NR_F42, LI_F42, RG_l42, RG_r42, TPRp_sF42, WNp_sF42, VMp_sF42, KYp_sF42, PPp_sF42, WFp_sF42, CCp_sF42]); (all_goals (repeat' (first | with_reducible intro _ | with_reducible apply And.intro))); all_goals (first | assumption | trivial | omega | (have zz_ := fz_z (by assumption); omega) | (split <;> omega) | (unfold BPre; exact M2) | (unfold ELI MID; exact ⟨⟨_, _, _, _, T1⟩, T2, by rw [rA_sT34 hp_2, rF_sT]; exact T3⟩) | (exact EL.word hp_11 hp_6 hp_12.symm (by omega)) | (exact EL.out I171_9 (by omega) (by omega)) | done)), ?_⟩
    intro v45 s45 hv45 Ws45 e45_0 e45_1 e45_2 e45_3 e45_4 e45_5 e45_6 e45_7 e45_8 e45_9 q45
    unfold rng at hv45
    unfold post_X14_node_t at q45
    obtain ⟨q45_1, q45_2, q45_3, q45_4, q45_5, q45_6, q45_7, q45_8, q45_9, q45_10⟩ := q45
    (try simp only [reduceIte, and_true, true_and, and_false, false_and, and_self, Nat.reduceEqDiff, fz_sF42, rF_sF, rA_sF, rR_sF, tr_sF, rNMp_sF, PNp_sF, GS_F42, OP_F42, NR_F42, LI_F42, RG_l42, RG_r42, TPRp_sF42, WNp_sF42, VMp_sF42, KYp_sF42, PPp_sF42, WFp_sF42, CCp_sF42] at q45_1 q45_2 q45_3 q45_4 q45_5 q45_6 q45_7 q45_8 q45_9 q45_10 e45_0 e45_1 e45_2 e45_3 e45_4 e45_5 e45_6 e45_7 e45_8 e45_9)
    have Ks45 : rR s45 7 = rR σ 7 := by first | assumption | ((try simp only [rR_sF, rR_sA, rR_sT, rR_sL] at e45_0 e45_1 e45_2 e45_3 e45_4 e45_5 e45_6 e45_7 e45_8 e45_9); omega)
    have WNp_45 := e45_0 hp_10; clear e45_0
    have D45 : ND σ s45 (rR σ 7) v45 x1 (rA σ 1035 (rF σ 0 42)) 0 := ⟨q45_3, q45_1, q45_2, q45_4, q45_5, q45_6, q45_9, by omega, by omega, by omega⟩
    have E45 := EL.byte hp_2 hp_11 D45 (by omega) hp_6 hp_12.symm (by omega) (by omega)
    exact (by (try simp only [post_X14_element, Ks45]); (all_goals (repeat' (first | with_reducible intro _ | with_reducible apply And.intro))); all_goals (first | assumption | trivial | omega | (have zz_ := fz_z (by assumption); omega) | (split <;> omega) | (unfold BPre; exact M2) | (unfold ELI MID; exact ⟨⟨_, _, _, _, T1⟩, T2, by rw [rA_sT34 hp_2, rF_sT]; exact T3⟩) | (exact EL.word hp_11 hp_6 hp_12.symm (by omega)) | (exact EL.out I171_9 (by omega) (by omega)) | done))
  · refine ⟨fun c22 => ?_, fun c22 => ?_⟩
    · refine ⟨(by (try simp only [reduceIte, and_true, true_and, and_false, false_and, and_self, Nat.reduceEqDiff, fz_sF42, rF_sF, rA_sF, rR_sF, tr_sF, rNMp_sF, PNp_sF, GS_F42, OP_F42, NR_F42, LI_F42, RG_l42, RG_r42, TPRp_sF42, WNp_sF42, VMp_sF42, KYp_sF42, PPp_sF42, WFp_sF42, CCp_sF42]); (all_goals (repeat' (first | with_reducible intro _ | with_reducible apply And.intro))); all_goals (first | assumption | trivial | omega | (have zz_ := fz_z (by assumption); omega) | (split <;> omega) | (unfold BPre; exact M2) | (unfold ELI MID; exact ⟨⟨_, _, _, _, T1⟩, T2, by rw [rA_sT34 hp_2, rF_sT]; exact T3⟩) | (exact EL.word hp_11 hp_6 hp_12.symm (by omega)) | (exact EL.out I171_9 (by omega) (by omega)) | done)), ?_⟩
      intro hr_; unfold rng at hr_
      refine ⟨(by (try simp only [reduceIte, and_true, true_and, and_false, false_and, and_self, Nat.reduceEqDiff, fz_sF42, rF_sF, rA_sF, rR_sF, tr_sF, rNMp_sF, PNp_sF, GS_F42, OP_F42, NR_F42, LI_F42, RG_l42, RG_r42, TPRp_sF42, WNp_sF42, VMp_sF42, KYp_sF42, PPp_sF42, WFp_sF42, CCp_sF42]); (all_goals (repeat' (first | with_reducible intro _ | with_reducible apply And.intro))); all_goals (first | assumption | trivial | omega | (have zz_ := fz_z (by assumption); omega) | (split <;> omega) | (unfold BPre; exact M2) | (unfold ELI MID; exact ⟨⟨_, _, _, _, T1⟩, T2, by rw [rA_sT34 hp_2, rF_sT]; exact T3⟩) | (exact EL.word hp_11 hp_6 hp_12.symm (by omega)) | (exact EL.out I171_9 (by omega) (by omega)) | done)), ?_⟩
      intro hr_; unfold rng at hr_
      refine ⟨(by (try simp only [pre_X14_node_t, reduceIte, and_true, true_and, and_false, false_and, and_self, Nat.reduceEqDiff, fz_sF42, rF_sF, rA_sF, rR_sF, tr_sF, rNMp_sF, PNp_sF, GS_F42, OP_F42, NR_F42, LI_F42, RG_l42, RG_r42, TPRp_sF42, WNp_sF42, VMp_sF42, KYp_sF42, PPp_sF42, WFp_sF42, CCp_sF42]); (all_goals (repeat' (first | with_reducible intro _ | with_reducible apply And.intro))); all_goals (first | assumption | trivial | omega | (have zz_ := fz_z (by assumption); omega) | (split <;> omega) | (unfold BPre; exact M2) | (unfold ELI MID; exact ⟨⟨_, _, _, _, T1⟩, T2, by rw [rA_sT34 hp_2, rF_sT]; exact T3⟩) | (exact EL.word hp_11 hp_6 hp_12.symm (by omega)) | (exact EL.out I171_9 (by omega) (by omega)) | done)), ?_⟩
      intro v45 s45 hv45 Ws45 e45_0 e45_1 e45_2 e45_3 e45_4 e45_5 e45_6 e45_7 e45_8 e45_9 q45
      unfold rng at hv45
      unfold post_X14_node_t at q45
      obtain ⟨q45_1, q45_2, q45_3, q45_4, q45_5, q45_6, q45_7, q45_8, q45_9, q45_10⟩ := q45
      (try simp only [reduceIte, and_true, true_and, and_false, false_and, and_self, Nat.reduceEqDiff, fz_sF42, rF_sF, rA_sF, rR_sF, tr_sF, rNMp_sF, PNp_sF, GS_F42, OP_F42, NR_F42, LI_F42, RG_l42, RG_r42, TPRp_sF42, WNp_sF42, VMp_sF42, KYp_sF42, PPp_sF42, WFp_sF42, CCp_sF42] at q45_1 q45_2 q45_3 q45_4 q45_5 q45_6 q45_7 q45_8 q45_9 q45_10 e45_0 e45_1 e45_2 e45_3 e45_4 e45_5 e45_6 e45_7 e45_8 e45_9)
      have Ks45 : rR s45 7 = rR σ 7 := by first | assumption | ((try simp only [rR_sF, rR_sA, rR_sT, rR_sL] at e45_0 e45_1 e45_2 e45_3 e45_4 e45_5 e45_6 e45_7 e45_8 e45_9); omega)
      have WNp_45 := e45_0 hp_10; clear e45_0
      have D45 : ND σ s45 (rR σ 7) v45 x1 (rA σ 1035 (rF σ 0 42)) 0 := ⟨q45_3, q45_1, q45_2, q45_4, q45_5, q45_6, q45_9, by omega, by omega, by omega⟩
      have E45 := EL.byte hp_2 hp_11 D45 (by omega) hp_6 hp_12.symm (by omega) (by omega)
      exact (by (try simp only [post_X14_element, Ks45]); (all_goals (repeat' (first | with_reducible intro _ | with_reducible apply And.intro))); all_goals (first | assumption | trivial | omega | (have zz_ := fz_z (by assumption); omega) | (split <;> omega) | (unfold BPre; exact M2) | (unfold ELI MID; exact ⟨⟨_, _, _, _, T1⟩, T2, by rw [rA_sT34 hp_2, rF_sT]; exact T3⟩) | (exact EL.word hp_11 hp_6 hp_12.symm (by omega)) | (exact EL.out I171_9 (by omega) (by omega)) | done))
    · refine ⟨fun c27 => ?_, fun c27 => ?_⟩
      · refine ⟨fun c51 => ?_, fun c51 => ?_⟩
        · have vp := EL.pos hp_11 hp_6 (by unfold nwp; omega)
          refine ⟨(by (try simp only [reduceIte, and_true, true_and, and_false, false_and, and_self, Nat.reduceEqDiff, fz_sF42, rF_sF, rA_sF, rR_sF, tr_sF, rNMp_sF, PNp_sF, GS_F42, OP_F42, NR_F42, LI_F42, RG_l42, RG_r42, TPRp_sF42, WNp_sF42, VMp_sF42, KYp_sF42, PPp_sF42, WFp_sF42, CCp_sF42]); (all_goals (repeat' (first | with_reducible intro _ | with_reducible apply And.intro))); all_goals (first | assumption | trivial | omega | (have zz_ := fz_z (by assumption); omega) | (split <;> omega) | (unfold BPre; exact M2) | (unfold ELI MID; exact ⟨⟨_, _, _, _, T1⟩, T2, by rw [rA_sT34 hp_2, rF_sT]; exact T3⟩) | (exact EL.word hp_11 hp_6 hp_12.symm (by omega)) | (exact EL.out I171_9 (by omega) (by omega)) | done)), ?_⟩
          intro hr_; unfold rng at hr_
          exact (by (try simp only [post_X14_element, reduceIte, and_true, true_and, and_false, false_and, and_self, Nat.reduceEqDiff, fz_sF42, rF_sF, rA_sF, rR_sF, tr_sF, rNMp_sF, PNp_sF, GS_F42, OP_F42, NR_F42, LI_F42, RG_l42, RG_r42, TPRp_sF42, WNp_sF42, VMp_sF42, KYp_sF42, PPp_sF42, WFp_sF42, CCp_sF42]); (all_goals (repeat' (first | with_reducible intro _ | with_reducible apply And.intro))); all_goals (first | assumption | trivial | omega | (have zz_ := fz_z (by assumption); omega) | (split <;> omega) | (unfold BPre; exact M2) | (unfold ELI MID; exact ⟨⟨_, _, _, _, T1⟩, T2, by rw [rA_sT34 hp_2, rF_sT]; exact T3⟩) | (exact EL.word hp_11 hp_6 hp_12.symm (by omega)) | (exact EL.out I171_9 (by omega) (by omega)) | done))
        · refine ⟨fun c57 => ?_, fun c57 => ?_⟩
          · have vp := EL.pos hp_11 hp_6 (by unfold nwp; omega)
            refine ⟨(by (try simp only [reduceIte, and_true, true_and, and_false, false_and, and_self, Nat.reduceEqDiff, fz_sF42, rF_sF, rA_sF, rR_sF, tr_sF, rNMp_sF, PNp_sF, GS_F42, OP_F42, NR_F42, LI_F42, RG_l42, RG_r42, TPRp_sF42, WNp_sF42, VMp_sF42, KYp_sF42, PPp_sF42, WFp_sF42, CCp_sF42]); (all_goals (repeat' (first | with_reducible intro _ | with_reducible apply And.intro))); all_goals (first | assumption | trivial | omega | (have zz_ := fz_z (by assumption); omega) | (split <;> omega) | (unfold BPre; exact M2) | (unfold ELI MID; exact ⟨⟨_, _, _, _, T1⟩, T2, by rw [rA_sT34 hp_2, rF_sT]; exact T3⟩) | (exact EL.word hp_11 hp_6 hp_12.symm (by omega)) | (exact EL.out I171_9 (by omega) (by omega)) | done)), ?_⟩
            intro hr_; unfold rng at hr_
            exact (by (try simp only [post_X14_element, reduceIte, and_true, true_and, and_false, false_and, and_self, Nat.reduceEqDiff, fz_sF42, rF_sF, rA_sF, rR_sF, tr_sF, rNMp_sF, PNp_sF, GS_F42, OP_F42, NR_F42, LI_F42, RG_l42, RG_r42, TPRp_sF42, WNp_sF42, VMp_sF42, KYp_sF42, PPp_sF42, WFp_sF42, CCp_sF42]); (all_goals (repeat' (first | with_reducible intro _ | with_reducible apply And.intro))); all_goals (first | assumption | trivial | omega | (have zz_ := fz_z (by assumption); omega) | (split <;> omega) | (unfold BPre; exact M2) | (unfold ELI MID; exact ⟨⟨_, _, _, _, T1⟩, T2, by rw [rA_sT34 hp_2, rF_sT]; exact T3⟩) | (exact EL.word hp_11 hp_6 hp_12.symm (by omega)) | (exact EL.out I171_9 (by omega) (by omega)) | done))
          · refine ⟨fun c63 => ?_, fun c63 => ?_⟩
            · refine ⟨fun c76 => ?_, fun c76 => ?_⟩
              · refine ⟨(by (try simp only [reduceIte, and_true, true_and, and_false, false_and, and_self, Nat.reduceEqDiff, fz_sF42, rF_sF, rA_sF, rR_sF, tr_sF, rNMp_sF, PNp_sF, GS_F42, OP_F42, NR_F42, LI_F42, RG_l42, RG_r42, TPRp_sF42, WNp_sF42, VMp_sF42, KYp_sF42, PPp_sF42, WFp_sF42, CCp_sF42]); (all_goals (repeat' (first | with_reducible intro _ | with_reducible apply And.intro))); all_goals (first | assumption | trivial | omega | (have zz_ := fz_z (by assumption); omega) | (split <;> omega) | (unfold BPre; exact M2) | (unfold ELI MID; exact ⟨⟨_, _, _, _, T1⟩, T2, by rw [rA_sT34 hp_2, rF_sT]; exact T3⟩) | (exact EL.word hp_11 hp_6 hp_12.symm (by omega)) | (exact EL.out I171_9 (by omega) (by omega)) | done)), ?_⟩
                intro hr_; unfold rng at hr_
                refine ⟨(by (try simp only [pre_X14_node_t, reduceIte, and_true, true_and, and_false, false_and, and_self, Nat.reduceEqDiff, fz_sF42, rF_sF, rA_sF, rR_sF, tr_sF, rNMp_sF, PNp_sF, GS_F42, OP_F42, NR_F42, LI_F42, RG_l42, RG_r42, TPRp_sF42, WNp_sF42, VMp_sF42, KYp_sF42, PPp_sF42, WFp_sF42, CCp_sF42]); (all_goals (repeat' (first | with_reducible intro _ | with_reducible apply And.intro))); all_goals (first | assumption | trivial | omega | (have zz_ := fz_z (by assumption); omega) | (split <;> omega) | (unfold BPre; exact M2) | (unfold ELI MID; exact ⟨⟨_, _, _, _, T1⟩, T2, by rw [rA_sT34 hp_2, rF_sT]; exact T3⟩) | (exact EL.word hp_11 hp_6 hp_12.symm (by omega)) | (exact EL.out I171_9 (by omega) (by omega)) | done)), ?_⟩
                intro v121 s121 hv121 Ws121 e121_0 e121_1 e121_2 e121_3 e121_4 e121_5 e121_6 e121_7 e121_8 e121_9 q121
                unfold rng at hv121
                unfold post_X14_node_t at q121
                obtain ⟨q121_1, q121_2, q121_3, q121_4, q121_5, q121_6, q121_7, q121_8, q121_9, q121_10⟩ := q121
                (try simp only [reduceIte, and_true, true_and, and_false, false_and, and_self, Nat.reduceEqDiff, fz_sF42, rF_sF, rA_sF, rR_sF, tr_sF, rNMp_sF, PNp_sF, GS_F42, OP_F42, NR_F42, LI_F42, RG_l42, RG_r42, TPRp_sF42, WNp_sF42, VMp_sF42, KYp_sF42, PPp_sF42, WFp_sF42, CCp_sF42] at q121_1 q121_2 q121_3 q121_4 q121_5 q121_6 q121_7 q121_8 q121_9 q121_10 e121_0 e121_1 e121_2 e121_3 e121_4 e121_5 e121_6 e121_7 e121_8 e121_9)
                have Ks121 : rR s121 7 = rR σ 7 := by first | assumption | ((try simp only [rR_sF, rR_sA, rR_sT, rR_sL] at e121_0 e121_1 e121_2 e121_3 e121_4 e121_5 e121_6 e121_7 e121_8 e121_9); omega)
                have WNp_121 := e121_0 hp_10; clear e121_0
                have p121 := (show ∀ i, rA s121 1036 i = rA σ 1036 i by assumption) (rF σ 0 42)
                have D121 : ND σ s121 (rR σ 7) v121 5 0 0 := ⟨q121_3, q121_1, q121_2, q121_4, q121_5, q121_6, q121_9, by omega, by omega, by omega⟩
                refine ⟨(by (try simp only [Ks121]); (all_goals (repeat' (first | with_reducible intro _ | with_reducible apply And.intro))); all_goals (first | assumption | trivial | omega | (have zz_ := fz_z (by assumption); omega) | (split <;> omega) | (unfold BPre; exact M2) | (unfold ELI MID; exact ⟨⟨_, _, _, _, T1⟩, T2, by rw [rA_sT34 hp_2, rF_sT]; exact T3⟩) | (exact EL.word hp_11 hp_6 hp_12.symm (by omega)) | (exact EL.out I171_9 (by omega) (by omega)) | done)), ?_⟩
                intro hr_; unfold rng at hr_
                refine ⟨(by (try simp only [Ks121]); (all_goals (repeat' (first | with_reducible intro _ | with_reducible apply And.intro))); all_goals (first | assumption | trivial | omega | (have zz_ := fz_z (by assumption); omega) | (split <;> omega) | (unfold BPre; exact M2) | (unfold ELI MID; exact ⟨⟨_, _, _, _, T1⟩, T2, by rw [rA_sT34 hp_2, rF_sT]; exact T3⟩) | (exact EL.word hp_11 hp_6 hp_12.symm (by omega)) | (exact EL.out I171_9 (by omega) (by omega)) | done)), ?_⟩
                intro hr_; unfold rng at hr_
                refine ⟨(by (try simp only [pre_X14_node_t, Ks121]); (all_goals (repeat' (first | with_reducible intro _ | with_reducible apply And.intro))); all_goals (first | assumption | trivial | omega | (have zz_ := fz_z (by assumption); omega) | (split <;> omega) | (unfold BPre; exact M2) | (unfold ELI MID; exact ⟨⟨_, _, _, _, T1⟩, T2, by rw [rA_sT34 hp_2, rF_sT]; exact T3⟩) | (exact EL.word hp_11 hp_6 hp_12.symm (by omega)) | (exact EL.out I171_9 (by omega) (by omega)) | done)), ?_⟩
                intro v141 s141 hv141 Ws141 e141_0 e141_1 e141_2 e141_3 e141_4 e141_5 e141_6 e141_7 e141_8 e141_9 q141
                unfold rng at hv141
                unfold post_X14_node_t at q141
                obtain ⟨q141_1, q141_2, q141_3, q141_4, q141_5, q141_6, q141_7, q141_8, q141_9, q141_10⟩ := q141
                (try simp only [Ks121] at q141_1 q141_2 q141_3 q141_4 q141_5 q141_6 q141_7 q141_8 q141_9 q141_10 e141_0 e141_1 e141_2 e141_3 e141_4 e141_5 e141_6 e141_7 e141_8 e141_9)
                have Ks141 : rR s141 7 = rR σ 7 := by first | assumption | ((try simp only [rR_sF, rR_sA, rR_sT, rR_sL] at e141_0 e141_1 e141_2 e141_3 e141_4 e141_5 e141_6 e141_7 e141_8 e141_9); omega)
                have WNp_141 := e141_0 WNp_121; clear e141_0
                have D141 : ND s121 s141 (rR σ 7) v141 8 (rA σ 1035 (rF σ 0 42)) 0 := ⟨q141_3, q141_1, q141_2, q141_4, q141_5.trans ((show ∀ i, rA s121 1035 i = rA σ 1035 i by assumption) _), q141_6, q141_9, by omega, by omega, by omega⟩
                have M0 := EL.if1 hp_2 hp_11 hp_6 (by omega) D121 D141 (by omega) (by omega) (by omega)
                obtain ⟨hm, Sm, nm_, xm, M1⟩ := M0
                obtain ⟨M2, M3, M4⟩ := M1.pre
                refine ⟨(by (try simp only [Ks141]); (all_goals (repeat' (first | with_reducible intro _ | with_reducible apply And.intro))); all_goals (first | assumption | trivial | omega | (have zz_ := fz_z (by assumption); omega) | (split <;> omega) | (unfold BPre; exact M2) | (unfold ELI MID; exact ⟨⟨_, _, _, _, T1⟩, T2, by rw [rA_sT34 hp_2, rF_sT]; exact T3⟩) | (exact EL.word hp_11 hp_6 hp_12.symm (by omega)) | (exact EL.out I171_9 (by omega) (by omega)) | done)), ?_⟩
                refine ⟨(hm, (Sm, (nm_, (B.2.2.2.1, (xm, B.2.2.2.2.2))))), ?_⟩
                refine ⟨(by (try simp only [pre_X14_build, reduceIte, and_true, true_and, and_false, false_and, and_self, Nat.reduceEqDiff, fz_sA, rF_sA, rA_sA, rR_sA, rF_sT, rR_sT, sT_sF, fz_sT, rA_sT26 hp_2, rA_sT27 hp_2, rA_sT34 hp_2, rA_sT35 hp_2, rA_sT36 hp_2, rA_sT37 hp_2, rA_sT40 hp_2, TPRp_sT hp_2, WNp_sT hp_2, VMp_sT hp_2, KYp_sT hp_2, PPp_sT hp_2, WFp_sT hp_2, CCp_sT hp_2, rNMp_sT1, PNp_sT1, Ks141]); (all_goals (repeat' (first | with_reducible intro _ | with_reducible apply And.intro))); all_goals (first | assumption | trivial | omega | (have zz_ := fz_z (by assumption); omega) | (split <;> omega) | (unfold BPre; exact M2) | (unfold ELI MID; exact ⟨⟨_, _, _, _, T1⟩, T2, by rw [rA_sT34 hp_2, rF_sT]; exact T3⟩) | (exact EL.word hp_11 hp_6 hp_12.symm (by omega)) | (exact EL.out I171_9 (by omega) (by omega)) | done)), ?_⟩
                refine ⟨(by (try simp only [rk_X14_build, reduceIte, and_true, true_and, and_false, false_and, and_self, Nat.reduceEqDiff, fz_sA, rF_sA, rA_sA, rR_sA, rF_sT, rR_sT, sT_sF, fz_sT, rA_sT26 hp_2, rA_sT27 hp_2, rA_sT34 hp_2, rA_sT35 hp_2, rA_sT36 hp_2, rA_sT37 hp_2, rA_sT40 hp_2, TPRp_sT hp_2, WNp_sT hp_2, VMp_sT hp_2, KYp_sT hp_2, PPp_sT hp_2, WFp_sT hp_2, CCp_sT hp_2, rNMp_sT1, PNp_sT1, Ks141]); (all_goals (repeat' (first | with_reducible intro _ | with_reducible apply And.intro))); all_goals (first | assumption | trivial | omega | (have zz_ := fz_z (by assumption); omega) | (split <;> omega) | (unfold BPre; exact M2) | (unfold ELI MID; exact ⟨⟨_, _, _, _, T1⟩, T2, by rw [rA_sT34 hp_2, rF_sT]; exact T3⟩) | (exact EL.word hp_11 hp_6 hp_12.symm (by omega)) | (exact EL.out I171_9 (by omega) (by omega)) | done)), ?_⟩
                intro v167 s167 hv167 Ws167 e167_0 e167_1 e167_2 e167_3 e167_4 e167_5 e167_6 e167_7 e167_8 q167
                unfold rng at hv167
                unfold post_X14_build at q167
                obtain ⟨q167_1, q167_2, q167_3, q167_4, q167_5, q167_6, q167_7⟩ := q167
                (try simp only [reduceIte, and_true, true_and, and_false, false_and, and_self, Nat.reduceEqDiff, fz_sA, rF_sA, rA_sA, rR_sA, rF_sT, rR_sT, sT_sF, fz_sT, rA_sT26 hp_2, rA_sT27 hp_2, rA_sT34 hp_2, rA_sT35 hp_2, rA_sT36 hp_2, rA_sT37 hp_2, rA_sT40 hp_2, TPRp_sT hp_2, WNp_sT hp_2, VMp_sT hp_2, KYp_sT hp_2, PPp_sT hp_2, WFp_sT hp_2, CCp_sT hp_2, rNMp_sT1, PNp_sT1, Ks141] at q167_1 q167_2 q167_3 q167_4 q167_5 q167_6 q167_7 e167_0 e167_1 e167_2 e167_3 e167_4 e167_5 e167_6 e167_7 e167_8)
                have Ks167 : rR s167 7 = rR σ 7 := by first | assumption | ((try simp only [rR_sF, rR_sA, rR_sT, rR_sL] at e167_0 e167_1 e167_2 e167_3 e167_4 e167_5 e167_6 e167_7 e167_8); omega)
                have WNp_167 := e167_0 WNp_141; clear e167_0
                have T0 := EL.tx hp_2 M1 q167_6 (by first | omega | (simp only [rF_sT, f42, f42n (show (7 : Nat) ≠ 42 by decide)]; omega)) (by first | omega | (simp only [rF_sT, f42, f42n (show (7 : Nat) ≠ 42 by decide)]; omega))
                obtain ⟨⟨ht, nt, xt, T1⟩, T2, T3⟩ := T0
                refine ⟨(by (try simp only [Ks167]); (all_goals (repeat' (first | with_reducible intro _ | with_reducible apply And.intro))); all_goals (first | assumption | trivial | omega | (have zz_ := fz_z (by assumption); omega) | (split <;> omega) | (unfold BPre; exact M2) | (unfold ELI MID; exact ⟨⟨_, _, _, _, T1⟩, T2, by rw [rA_sT34 hp_2, rF_sT]; exact T3⟩) | (exact EL.word hp_11 hp_6 hp_12.symm (by omega)) | (exact EL.out I171_9 (by omega) (by omega)) | done)), ?_⟩
                exact (by (try simp only [inv_X14_element_171, reduceIte, and_true, true_and, and_false, false_and, and_self, Nat.reduceEqDiff, fz_sA, rF_sA, rA_sA, rR_sA, rF_sT, rR_sT, sT_sF, fz_sT, rA_sT26 hp_2, rA_sT27 hp_2, rA_sT34 hp_2, rA_sT35 hp_2, rA_sT36 hp_2, rA_sT37 hp_2, rA_sT40 hp_2, TPRp_sT hp_2, WNp_sT hp_2, VMp_sT hp_2, KYp_sT hp_2, PPp_sT hp_2, WFp_sT hp_2, CCp_sT hp_2, rNMp_sT2, PNp_sT2, Ks167]); (all_goals (repeat' (first | with_reducible intro _ | with_reducible apply And.intro))); all_goals (first | assumption | trivial | omega | (have zz_ := fz_z (by assumption); omega) | (split <;> omega) | (unfold BPre; exact M2) | (unfold ELI MID; exact ⟨⟨_, _, _, _, T1⟩, T2, by rw [rA_sT34 hp_2, rF_sT]; exact T3⟩) | (exact EL.word hp_11 hp_6 hp_12.symm (by omega)) | (exact EL.out I171_9 (by omega) (by omega)) | done))
              · have P1 := EL.p1 hp_11 hp_6 (by omega)
                have l1 : ((25 : Int) :: B.2.1).length = B.2.1.length + 1 := rfl
                obtain ⟨P1a, P1b, P1c, P1d⟩ := P1
                refine ⟨(by (try simp only [reduceIte, and_true, true_and, and_false, false_and, and_self, Nat.reduceEqDiff, fz_sF42, rF_sF, rA_sF, rR_sF, tr_sF, rNMp_sF, PNp_sF, GS_F42, OP_F42, NR_F42, LI_F42, RG_l42, RG_r42, TPRp_sF42, WNp_sF42, VMp_sF42, KYp_sF42, PPp_sF42, WFp_sF42, CCp_sF42]); (all_goals (repeat' (first | with_reducible intro _ | with_reducible apply And.intro))); all_goals (first | assumption | trivial | omega | (have zz_ := fz_z (by assumption); omega) | (split <;> omega) | (unfold BPre; exact M2) | (unfold ELI MID; exact ⟨⟨_, _, _, _, T1⟩, T2, by rw [rA_sT34 hp_2, rF_sT]; exact T3⟩) | (exact EL.word hp_11 hp_6 hp_12.symm (by omega)) | (exact EL.out I171_9 (by omega) (by omega)) | done)), ?_⟩
                intro hr_; unfold rng at hr_
                refine ⟨(B.1, (((25 : Int) :: B.2.1), ((rA σ 1035 (rF σ 0 42) + 1), (B.2.2.2.1, ((B.1 1 (rA σ 1035 (rF σ 0 42))), B.2.2.2.2.2))))), ?_⟩
                refine ⟨(by (try simp only [pre_X14_build, reduceIte, and_true, true_and, and_false, false_and, and_self, Nat.reduceEqDiff, fz_sF42, rF_sF, rA_sF, rR_sF, tr_sF, rNMp_sF, PNp_sF, GS_F42, OP_F42, NR_F42, LI_F42, RG_l42, RG_r42, TPRp_sF42, WNp_sF42, VMp_sF42, KYp_sF42, PPp_sF42, WFp_sF42, CCp_sF42]); (all_goals (repeat' (first | with_reducible intro _ | with_reducible apply And.intro))); all_goals (first | assumption | trivial | omega | (have zz_ := fz_z (by assumption); omega) | (split <;> omega) | (unfold BPre; exact M2) | (unfold ELI MID; exact ⟨⟨_, _, _, _, T1⟩, T2, by rw [rA_sT34 hp_2, rF_sT]; exact T3⟩) | (exact EL.word hp_11 hp_6 hp_12.symm (by omega)) | (exact EL.out I171_9 (by omega) (by omega)) | done)), ?_⟩
                refine ⟨(by (try simp only [rk_X14_build, reduceIte, and_true, true_and, and_false, false_and, and_self, Nat.reduceEqDiff, fz_sF42, rF_sF, rA_sF, rR_sF, tr_sF, rNMp_sF, PNp_sF, GS_F42, OP_F42, NR_F42, LI_F42, RG_l42, RG_r42, TPRp_sF42, WNp_sF42, VMp_sF42, KYp_sF42, PPp_sF42, WFp_sF42, CCp_sF42]); (all_goals (repeat' (first | with_reducible intro _ | with_reducible apply And.intro))); all_goals (first | assumption | trivial | omega | (have zz_ := fz_z (by assumption); omega) | (split <;> omega) | (unfold BPre; exact M2) | (unfold ELI MID; exact ⟨⟨_, _, _, _, T1⟩, T2, by rw [rA_sT34 hp_2, rF_sT]; exact T3⟩) | (exact EL.word hp_11 hp_6 hp_12.symm (by omega)) | (exact EL.out I171_9 (by omega) (by omega)) | done)), ?_⟩
                intro v95 s95 hv95 Ws95 e95_0 e95_1 e95_2 e95_3 e95_4 e95_5 e95_6 e95_7 e95_8 q95
                unfold rng at hv95
                unfold post_X14_build at q95
                obtain ⟨q95_1, q95_2, q95_3, q95_4, q95_5, q95_6, q95_7⟩ := q95
                (try simp only [reduceIte, and_true, true_and, and_false, false_and, and_self, Nat.reduceEqDiff, fz_sF42, rF_sF, rA_sF, rR_sF, tr_sF, rNMp_sF, PNp_sF, GS_F42, OP_F42, NR_F42, LI_F42, RG_l42, RG_r42, TPRp_sF42, WNp_sF42, VMp_sF42, KYp_sF42, PPp_sF42, WFp_sF42, CCp_sF42] at q95_1 q95_2 q95_3 q95_4 q95_5 q95_6 q95_7 e95_0 e95_1 e95_2 e95_3 e95_4 e95_5 e95_6 e95_7 e95_8)
                have Ks95 : rR s95 7 = rR σ 7 := by first | assumption | ((try simp only [rR_sF, rR_sA, rR_sT, rR_sL] at e95_0 e95_1 e95_2 e95_3 e95_4 e95_5 e95_6 e95_7 e95_8); omega)
                have WNp_95 := e95_0 hp_10; clear e95_0
                have P2 := EL.p2 hp_2 hp_11 hp_6 (by omega) q95_6 (by omega)
                obtain ⟨P2a, P2b⟩ := P2
                refine ⟨(by (try simp only [Ks95]); (all_goals (repeat' (first | with_reducible intro _ | with_reducible apply And.intro))); all_goals (first | assumption | trivial | omega | (have zz_ := fz_z (by assumption); omega) | (split <;> omega) | (unfold BPre; exact M2) | (unfold ELI MID; exact ⟨⟨_, _, _, _, T1⟩, T2, by rw [rA_sT34 hp_2, rF_sT]; exact T3⟩) | (exact EL.word hp_11 hp_6 hp_12.symm (by omega)) | (exact EL.out I171_9 (by omega) (by omega)) | done)), ?_⟩
                intro hr_; unfold rng at hr_
                refine ⟨(by (try simp only [rng, reduceIte, and_true, true_and, and_false, false_and, and_self, Nat.reduceEqDiff, fz_sA, rF_sA, rA_sA, rR_sA, rF_sT, rR_sT, sT_sF, fz_sT, rA_sT26 hp_2, rA_sT27 hp_2, rA_sT34 hp_2, rA_sT35 hp_2, rA_sT36 hp_2, rA_sT37 hp_2, rA_sT40 hp_2, TPRp_sT hp_2, WNp_sT hp_2, VMp_sT hp_2, KYp_sT hp_2, PPp_sT hp_2, WFp_sT hp_2, CCp_sT hp_2, rNMp_sT2, PNp_sT2, Ks95]); (all_goals (repeat' (first | with_reducible intro _ | with_reducible apply And.intro))); all_goals (first | assumption | trivial | omega | (have zz_ := fz_z (by assumption); omega) | (split <;> omega) | (unfold BPre; exact M2) | (unfold ELI MID; exact ⟨⟨_, _, _, _, T1⟩, T2, by rw [rA_sT34 hp_2, rF_sT]; exact T3⟩) | (exact EL.word hp_11 hp_6 hp_12.symm (by omega)) | (exact EL.out I171_9 (by omega) (by omega)) | done)), ?_⟩
                exact (by (try simp only [post_X14_element, reduceIte, and_true, true_and, and_false, false_and, and_self, Nat.reduceEqDiff, fz_sA, rF_sA, rA_sA, rR_sA, rF_sT, rR_sT, sT_sF, fz_sT, rA_sT26 hp_2, rA_sT27 hp_2, rA_sT34 hp_2, rA_sT35 hp_2, rA_sT36 hp_2, rA_sT37 hp_2, rA_sT40 hp_2, TPRp_sT hp_2, WNp_sT hp_2, VMp_sT hp_2, KYp_sT hp_2, PPp_sT hp_2, WFp_sT hp_2, CCp_sT hp_2, rNMp_sT2, PNp_sT2, fz_sF42, rF_sF, rA_sF, rR_sF, tr_sF, rNMp_sF, PNp_sF, GS_F42, OP_F42, NR_F42, LI_F42, RG_l42, RG_r42, TPRp_sF42, WNp_sF42, VMp_sF42, KYp_sF42, PPp_sF42, WFp_sF42, CCp_sF42, Ks95]); (all_goals (repeat' (first | with_reducible intro _ | with_reducible apply And.intro))); all_goals (first | assumption | trivial | omega | (have zz_ := fz_z (by assumption); omega) | (split <;> omega) | (unfold BPre; exact M2) | (unfold ELI MID; exact ⟨⟨_, _, _, _, T1⟩, T2, by rw [rA_sT34 hp_2, rF_sT]; exact T3⟩) | (exact EL.word hp_11 hp_6 hp_12.symm (by omega)) | (exact EL.out I171_9 (by omega) (by omega)) | done))
            · have vp := EL.pos hp_11 hp_6 (by unfold nwp; omega)
              refine ⟨(by (try simp only [reduceIte, and_true, true_and, and_false, false_and, and_self, Nat.reduceEqDiff, fz_sF42, rF_sF, rA_sF, rR_sF, tr_sF, rNMp_sF, PNp_sF, GS_F42, OP_F42, NR_F42, LI_F42, RG_l42, RG_r42, TPRp_sF42, WNp_sF42, VMp_sF42, KYp_sF42, PPp_sF42, WFp_sF42, CCp_sF42]); (all_goals (repeat' (first | with_reducible intro _ | with_reducible apply And.intro))); all_goals (first | assumption | trivial | omega | (have zz_ := fz_z (by assumption); omega) | (split <;> omega) | (unfold BPre; exact M2) | (unfold ELI MID; exact ⟨⟨_, _, _, _, T1⟩, T2, by rw [rA_sT34 hp_2, rF_sT]; exact T3⟩) | (exact EL.word hp_11 hp_6 hp_12.symm (by omega)) | (exact EL.out I171_9 (by omega) (by omega)) | done)), ?_⟩
              intro hr_; unfold rng at hr_
              exact (by (try simp only [post_X14_element, reduceIte, and_true, true_and, and_false, false_and, and_self, Nat.reduceEqDiff, fz_sF42, rF_sF, rA_sF, rR_sF, tr_sF, rNMp_sF, PNp_sF, GS_F42, OP_F42, NR_F42, LI_F42, RG_l42, RG_r42, TPRp_sF42, WNp_sF42, VMp_sF42, KYp_sF42, PPp_sF42, WFp_sF42, CCp_sF42]); (all_goals (repeat' (first | with_reducible intro _ | with_reducible apply And.intro))); all_goals (first | assumption | trivial | omega | (have zz_ := fz_z (by assumption); omega) | (split <;> omega) | (unfold BPre; exact M2) | (unfold ELI MID; exact ⟨⟨_, _, _, _, T1⟩, T2, by rw [rA_sT34 hp_2, rF_sT]; exact T3⟩) | (exact EL.word hp_11 hp_6 hp_12.symm (by omega)) | (exact EL.out I171_9 (by omega) (by omega)) | done))
      · refine ⟨(by (try simp only [reduceIte, and_true, true_and, and_false, false_and, and_self, Nat.reduceEqDiff, fz_sF42, rF_sF, rA_sF, rR_sF, tr_sF, rNMp_sF, PNp_sF, GS_F42, OP_F42, NR_F42, LI_F42, RG_l42, RG_r42, TPRp_sF42, WNp_sF42, VMp_sF42, KYp_sF42, PPp_sF42, WFp_sF42, CCp_sF42]); (all_goals (repeat' (first | with_reducible intro _ | with_reducible apply And.intro))); all_goals (first | assumption | trivial | omega | (have zz_ := fz_z (by assumption); omega) | (split <;> omega) | (unfold BPre; exact M2) | (unfold ELI MID; exact ⟨⟨_, _, _, _, T1⟩, T2, by rw [rA_sT34 hp_2, rF_sT]; exact T3⟩) | (exact EL.word hp_11 hp_6 hp_12.symm (by omega)) | (exact EL.out I171_9 (by omega) (by omega)) | done)), ?_⟩
        intro hr_; unfold rng at hr_
        refine ⟨(by (try simp only [reduceIte, and_true, true_and, and_false, false_and, and_self, Nat.reduceEqDiff, fz_sF42, rF_sF, rA_sF, rR_sF, tr_sF, rNMp_sF, PNp_sF, GS_F42, OP_F42, NR_F42, LI_F42, RG_l42, RG_r42, TPRp_sF42, WNp_sF42, VMp_sF42, KYp_sF42, PPp_sF42, WFp_sF42, CCp_sF42]); (all_goals (repeat' (first | with_reducible intro _ | with_reducible apply And.intro))); all_goals (first | assumption | trivial | omega | (have zz_ := fz_z (by assumption); omega) | (split <;> omega) | (unfold BPre; exact M2) | (unfold ELI MID; exact ⟨⟨_, _, _, _, T1⟩, T2, by rw [rA_sT34 hp_2, rF_sT]; exact T3⟩) | (exact EL.word hp_11 hp_6 hp_12.symm (by omega)) | (exact EL.out I171_9 (by omega) (by omega)) | done)), ?_⟩
        intro hr_; unfold rng at hr_
        refine ⟨(by (try simp only [pre_X14_node_t, reduceIte, and_true, true_and, and_false, false_and, and_self, Nat.reduceEqDiff, fz_sF42, rF_sF, rA_sF, rR_sF, tr_sF, rNMp_sF, PNp_sF, GS_F42, OP_F42, NR_F42, LI_F42, RG_l42, RG_r42, TPRp_sF42, WNp_sF42, VMp_sF42, KYp_sF42, PPp_sF42, WFp_sF42, CCp_sF42]); (all_goals (repeat' (first | with_reducible intro _ | with_reducible apply And.intro))); all_goals (first | assumption | trivial | omega | (have zz_ := fz_z (by assumption); omega) | (split <;> omega) | (unfold BPre; exact M2) | (unfold ELI MID; exact ⟨⟨_, _, _, _, T1⟩, T2, by rw [rA_sT34 hp_2, rF_sT]; exact T3⟩) | (exact EL.word hp_11 hp_6 hp_12.symm (by omega)) | (exact EL.out I171_9 (by omega) (by omega)) | done)), ?_⟩
        intro v45 s45 hv45 Ws45 e45_0 e45_1 e45_2 e45_3 e45_4 e45_5 e45_6 e45_7 e45_8 e45_9 q45
        unfold rng at hv45
        unfold post_X14_node_t at q45
        obtain ⟨q45_1, q45_2, q45_3, q45_4, q45_5, q45_6, q45_7, q45_8, q45_9, q45_10⟩ := q45
        (try simp only [reduceIte, and_true, true_and, and_false, false_and, and_self, Nat.reduceEqDiff, fz_sF42, rF_sF, rA_sF, rR_sF, tr_sF, rNMp_sF, PNp_sF, GS_F42, OP_F42, NR_F42, LI_F42, RG_l42, RG_r42, TPRp_sF42, WNp_sF42, VMp_sF42, KYp_sF42, PPp_sF42, WFp_sF42, CCp_sF42] at q45_1 q45_2 q45_3 q45_4 q45_5 q45_6 q45_7 q45_8 q45_9 q45_10 e45_0 e45_1 e45_2 e45_3 e45_4 e45_5 e45_6 e45_7 e45_8 e45_9)
        have Ks45 : rR s45 7 = rR σ 7 := by first | assumption | ((try simp only [rR_sF, rR_sA, rR_sT, rR_sL] at e45_0 e45_1 e45_2 e45_3 e45_4 e45_5 e45_6 e45_7 e45_8 e45_9); omega)
        have WNp_45 := e45_0 hp_10; clear e45_0
        have D45 : ND σ s45 (rR σ 7) v45 x1 (rA σ 1035 (rF σ 0 42)) 0 := ⟨q45_3, q45_1, q45_2, q45_4, q45_5, q45_6, q45_9, by omega, by omega, by omega⟩
        have E45 := EL.byte hp_2 hp_11 D45 (by omega) hp_6 hp_12.symm (by omega) (by omega)
        exact (by (try simp only [post_X14_element, Ks45]); (all_goals (repeat' (first | with_reducible intro _ | with_reducible apply And.intro))); all_goals (first | assumption | trivial | omega | (have zz_ := fz_z (by assumption); omega) | (split <;> omega) | (unfold BPre; exact M2) | (unfold ELI MID; exact ⟨⟨_, _, _, _, T1⟩, T2, by rw [rA_sT34 hp_2, rF_sT]; exact T3⟩) | (exact EL.word hp_11 hp_6 hp_12.symm (by omega)) | (exact EL.out I171_9 (by omega) (by omega)) | done))
set_option maxHeartbeats 20000000 in
theorem vX14_element_171 (n : Nat) (σ : rS) (x1 : Int) (gg : Nat) (B : GBt) (hwf : rWF σ) (hx1 : rng x1) (hp : pre_X14_element σ x1 gg B) (hr : rk_X14_element σ x1 gg B ≤ n + 1) : VC_X14_element_171 n σ x1 gg B (post_X14_element σ x1 gg B) := by
  unfold pre_X14_element at hp
  obtain ⟨hp_1, hp_2, hp_3, hp_4, hp_5, hp_6, hp_7, hp_8, hp_9, hp_10, hp_11, hp_12, hp_13, hp_14⟩ := hp
  unfold rng at hx1
  subst hp_1
  unfold rk_X14_element at hr
  have wn_ := hp_10
  unfold WNp at wn_
  obtain ⟨wn1, wn2, wn3, wn4, wn5⟩ := wn_ (rF σ 0 42) (by omega) (by omega)
  clear wn_
  unfold VC_X14_element_171
  intro s171 y171_3 y171_4 Ws171 hy171_3 hy171_4 e171_0 e171_1 e171_2 e171_3 e171_4 e171_5 e171_6 e171_7 e171_8 I171
  have Ks171 : rR s171 7 = rR σ 7 := by omega
  unfold inv_X14_element_171 at I171
  obtain ⟨I171_1, I171_2, I171_3, I171_4, I171_5, I171_6, I171_7, I171_8, I171_9, I171_10⟩ := I171
  (try simp only [Ks171] at I171_1 I171_2 I171_3 I171_4 I171_5 I171_6 I171_7 I171_8 I171_9 I171_10)
  have WNp_171 := e171_0 hp_10; clear e171_0
  have wn_ := WNp_171
  unfold WNp at wn_
  obtain ⟨ww1, ww2, ww3, ww4, ww5⟩ := wn_ (rF s171 0 42) (by omega) (by omega)
  clear wn_
  intro hr_; unfold rng at hr_
  refine ⟨(by (try simp only [Ks171]); (all_goals (repeat' (first | with_reducible intro _ | with_reducible apply And.intro))); all_goals (first | assumption | trivial | omega | (have zz_ := fz_z (by assumption); omega) | (split <;> omega) | (unfold BPre; exact M2) | (unfold ELI MID; exact ⟨⟨_, _, _, _, T1⟩, T2, by rw [rA_sT34 hp_2, rF_sT]; exact T3⟩) | (exact EL.word hp_11 hp_6 hp_12.symm (by omega)) | (exact EL.out I171_9 (by omega) (by omega)) | done)), ?_⟩
  intro hr_; unfold rng at hr_
  refine ⟨fun c182 => ?_, fun c182 => ?_⟩
  · refine ⟨(by (try simp only [rng, Ks171]); (all_goals (repeat' (first | with_reducible intro _ | with_reducible apply And.intro))); all_goals (first | assumption | trivial | omega | (have zz_ := fz_z (by assumption); omega) | (split <;> omega) | (unfold BPre; exact M2) | (unfold ELI MID; exact ⟨⟨_, _, _, _, T1⟩, T2, by rw [rA_sT34 hp_2, rF_sT]; exact T3⟩) | (exact EL.word hp_11 hp_6 hp_12.symm (by omega)) | (exact EL.out I171_9 (by omega) (by omega)) | done)), ?_⟩
    exact (by (try simp only [post_X14_element, reduceIte, and_true, true_and, and_false, false_and, and_self, Nat.reduceEqDiff, fz_sF42, rF_sF, rA_sF, rR_sF, tr_sF, rNMp_sF, PNp_sF, GS_F42, OP_F42, NR_F42, LI_F42, RG_l42, RG_r42, TPRp_sF42, WNp_sF42, VMp_sF42, KYp_sF42, PPp_sF42, WFp_sF42, CCp_sF42, Ks171]); (all_goals (repeat' (first | with_reducible intro _ | with_reducible apply And.intro))); all_goals (first | assumption | trivial | omega | (have zz_ := fz_z (by assumption); omega) | (split <;> omega) | (unfold BPre; exact M2) | (unfold ELI MID; exact ⟨⟨_, _, _, _, T1⟩, T2, by rw [rA_sT34 hp_2, rF_sT]; exact T3⟩) | (exact EL.word hp_11 hp_6 hp_12.symm (by omega)) | (exact EL.out I171_9 (by omega) (by omega)) | done))
  · refine ⟨(by (try simp only [Ks171]); (all_goals (repeat' (first | with_reducible intro _ | with_reducible apply And.intro))); all_goals (first | assumption | trivial | omega | (have zz_ := fz_z (by assumption); omega) | (split <;> omega) | (unfold BPre; exact M2) | (unfold ELI MID; exact ⟨⟨_, _, _, _, T1⟩, T2, by rw [rA_sT34 hp_2, rF_sT]; exact T3⟩) | (exact EL.word hp_11 hp_6 hp_12.symm (by omega)) | (exact EL.out I171_9 (by omega) (by omega)) | done)), ?_⟩
    refine ⟨fun c199 => ?_, fun c199 => ?_⟩
    · refine ⟨(by (try simp only [Ks171]); (all_goals (repeat' (first | with_reducible intro _ | with_reducible apply And.intro))); all_goals (first | assumption | trivial | omega | (have zz_ := fz_z (by assumption); omega) | (split <;> omega) | (unfold BPre; exact M2) | (unfold ELI MID; exact ⟨⟨_, _, _, _, T1⟩, T2, by rw [rA_sT34 hp_2, rF_sT]; exact T3⟩) | (exact EL.word hp_11 hp_6 hp_12.symm (by omega)) | (exact EL.out I171_9 (by omega) (by omega)) | done)), ?_⟩
      intro hr_; unfold rng at hr_
      refine ⟨(by (try simp only [Ks171]); (all_goals (repeat' (first | with_reducible intro _ | with_reducible apply And.intro))); all_goals (first | assumption | trivial | omega | (have zz_ := fz_z (by assumption); omega) | (split <;> omega) | (unfold BPre; exact M2) | (unfold ELI MID; exact ⟨⟨_, _, _, _, T1⟩, T2, by rw [rA_sT34 hp_2, rF_sT]; exact T3⟩) | (exact EL.word hp_11 hp_6 hp_12.symm (by omega)) | (exact EL.out I171_9 (by omega) (by omega)) | done)), ?_⟩
      intro hr_; unfold rng at hr_
      refine ⟨(by (try simp only [pre_X14_node_t, Ks171]); (all_goals (repeat' (first | with_reducible intro _ | with_reducible apply And.intro))); all_goals (first | assumption | trivial | omega | (have zz_ := fz_z (by assumption); omega) | (split <;> omega) | (unfold BPre; exact M2) | (unfold ELI MID; exact ⟨⟨_, _, _, _, T1⟩, T2, by rw [rA_sT34 hp_2, rF_sT]; exact T3⟩) | (exact EL.word hp_11 hp_6 hp_12.symm (by omega)) | (exact EL.out I171_9 (by omega) (by omega)) | done)), ?_⟩
      intro v225 s225 hv225 Ws225 e225_0 e225_1 e225_2 e225_3 e225_4 e225_5 e225_6 e225_7 e225_8 e225_9 q225
      unfold rng at hv225
      unfold post_X14_node_t at q225
      obtain ⟨q225_1, q225_2, q225_3, q225_4, q225_5, q225_6, q225_7, q225_8, q225_9, q225_10⟩ := q225
      (try simp only [Ks171] at q225_1 q225_2 q225_3 q225_4 q225_5 q225_6 q225_7 q225_8 q225_9 q225_10 e225_0 e225_1 e225_2 e225_3 e225_4 e225_5 e225_6 e225_7 e225_8 e225_9)
      have Ks225 : rR s225 7 = rR σ 7 := by first | assumption | ((try simp only [rR_sF, rR_sA, rR_sT, rR_sL] at e225_0 e225_1 e225_2 e225_3 e225_4 e225_5 e225_6 e225_7 e225_8 e225_9); omega)
      have WNp_225 := e225_0 WNp_171; clear e225_0
      have D225 : ND s171 s225 (rR σ 7) v225 8 _ 0 := ⟨q225_3, q225_1, q225_2, q225_4, q225_5, q225_6, q225_9, by omega, by omega, by omega⟩
      have M0 := EL.br hp_2 I171_9 (by omega) (by omega) D225 (by omega) (by omega) (by omega) (by omega)
      obtain ⟨hm, Sm, nm_, xm, M1⟩ := M0
      obtain ⟨M2, M3, M4⟩ := M1.pre
      refine ⟨(by (try simp only [rng, Ks225]); (all_goals (repeat' (first | with_reducible intro _ | with_reducible apply And.intro))); all_goals (first | assumption | trivial | omega | (have zz_ := fz_z (by assumption); omega) | (split <;> omega) | (unfold BPre; exact M2) | (unfold ELI MID; exact ⟨⟨_, _, _, _, T1⟩, T2, by rw [rA_sT34 hp_2, rF_sT]; exact T3⟩) | (exact EL.word hp_11 hp_6 hp_12.symm (by omega)) | (exact EL.out I171_9 (by omega) (by omega)) | done)), ?_⟩
      refine ⟨(by (try simp only [reduceIte, and_true, true_and, and_false, false_and, and_self, Nat.reduceEqDiff, fz_sF42, rF_sF, rA_sF, rR_sF, tr_sF, rNMp_sF, PNp_sF, GS_F42, OP_F42, NR_F42, LI_F42, RG_l42, RG_r42, TPRp_sF42, WNp_sF42, VMp_sF42, KYp_sF42, PPp_sF42, WFp_sF42, CCp_sF42, Ks225]); (all_goals (repeat' (first | with_reducible intro _ | with_reducible apply And.intro))); all_goals (first | assumption | trivial | omega | (have zz_ := fz_z (by assumption); omega) | (split <;> omega) | (unfold BPre; exact M2) | (unfold ELI MID; exact ⟨⟨_, _, _, _, T1⟩, T2, by rw [rA_sT34 hp_2, rF_sT]; exact T3⟩) | (exact EL.word hp_11 hp_6 hp_12.symm (by omega)) | (exact EL.out I171_9 (by omega) (by omega)) | done)), ?_⟩
      refine ⟨(hm, (Sm, (nm_, (B.2.2.2.1, (xm, B.2.2.2.2.2))))), ?_⟩
      refine ⟨(by (try simp only [pre_X14_build, reduceIte, and_true, true_and, and_false, false_and, and_self, Nat.reduceEqDiff, fz_sF42, rF_sF, rA_sF, rR_sF, tr_sF, rNMp_sF, PNp_sF, GS_F42, OP_F42, NR_F42, LI_F42, RG_l42, RG_r42, TPRp_sF42, WNp_sF42, VMp_sF42, KYp_sF42, PPp_sF42, WFp_sF42, CCp_sF42, fz_sA, rF_sA, rA_sA, rR_sA, rF_sT, rR_sT, sT_sF, fz_sT, rA_sT26 hp_2, rA_sT27 hp_2, rA_sT34 hp_2, rA_sT35 hp_2, rA_sT36 hp_2, rA_sT37 hp_2, rA_sT40 hp_2, TPRp_sT hp_2, WNp_sT hp_2, VMp_sT hp_2, KYp_sT hp_2, PPp_sT hp_2, WFp_sT hp_2, CCp_sT hp_2, rNMp_sT5, PNp_sT5, Ks225]); (all_goals (repeat' (first | with_reducible intro _ | with_reducible apply And.intro))); all_goals (first | assumption | trivial | omega | (have zz_ := fz_z (by assumption); omega) | (split <;> omega) | (unfold BPre; exact M2) | (unfold ELI MID; exact ⟨⟨_, _, _, _, T1⟩, T2, by rw [rA_sT34 hp_2, rF_sT]; exact T3⟩) | (exact EL.word hp_11 hp_6 hp_12.symm (by omega)) | (exact EL.out I171_9 (by omega) (by omega)) | done)), ?_⟩
      refine ⟨(by (try simp only [rk_X14_build, reduceIte, and_true, true_and, and_false, false_and, and_self, Nat.reduceEqDiff, fz_sF42, rF_sF, rA_sF, rR_sF, tr_sF, rNMp_sF, PNp_sF, GS_F42, OP_F42, NR_F42, LI_F42, RG_l42, RG_r42, TPRp_sF42, WNp_sF42, VMp_sF42, KYp_sF42, PPp_sF42, WFp_sF42, CCp_sF42, fz_sA, rF_sA, rA_sA, rR_sA, rF_sT, rR_sT, sT_sF, fz_sT, rA_sT26 hp_2, rA_sT27 hp_2, rA_sT34 hp_2, rA_sT35 hp_2, rA_sT36 hp_2, rA_sT37 hp_2, rA_sT40 hp_2, TPRp_sT hp_2, WNp_sT hp_2, VMp_sT hp_2, KYp_sT hp_2, PPp_sT hp_2, WFp_sT hp_2, CCp_sT hp_2, rNMp_sT5, PNp_sT5, Ks225]); (all_goals (repeat' (first | with_reducible intro _ | with_reducible apply And.intro))); all_goals (first | assumption | trivial | omega | (have zz_ := fz_z (by assumption); omega) | (split <;> omega) | (unfold BPre; exact M2) | (unfold ELI MID; exact ⟨⟨_, _, _, _, T1⟩, T2, by rw [rA_sT34 hp_2, rF_sT]; exact T3⟩) | (exact EL.word hp_11 hp_6 hp_12.symm (by omega)) | (exact EL.out I171_9 (by omega) (by omega)) | done)), ?_⟩
      intro v266 s266 hv266 Ws266 e266_0 e266_1 e266_2 e266_3 e266_4 e266_5 e266_6 e266_7 e266_8 q266
      unfold rng at hv266
      unfold post_X14_build at q266
      obtain ⟨q266_1, q266_2, q266_3, q266_4, q266_5, q266_6, q266_7⟩ := q266
      (try simp only [reduceIte, and_true, true_and, and_false, false_and, and_self, Nat.reduceEqDiff, fz_sF42, rF_sF, rA_sF, rR_sF, tr_sF, rNMp_sF, PNp_sF, GS_F42, OP_F42, NR_F42, LI_F42, RG_l42, RG_r42, TPRp_sF42, WNp_sF42, VMp_sF42, KYp_sF42, PPp_sF42, WFp_sF42, CCp_sF42, fz_sA, rF_sA, rA_sA, rR_sA, rF_sT, rR_sT, sT_sF, fz_sT, rA_sT26 hp_2, rA_sT27 hp_2, rA_sT34 hp_2, rA_sT35 hp_2, rA_sT36 hp_2, rA_sT37 hp_2, rA_sT40 hp_2, TPRp_sT hp_2, WNp_sT hp_2, VMp_sT hp_2, KYp_sT hp_2, PPp_sT hp_2, WFp_sT hp_2, CCp_sT hp_2, rNMp_sT5, PNp_sT5, Ks225] at q266_1 q266_2 q266_3 q266_4 q266_5 q266_6 q266_7 e266_0 e266_1 e266_2 e266_3 e266_4 e266_5 e266_6 e266_7 e266_8)
      have Ks266 : rR s266 7 = rR σ 7 := by first | assumption | ((try simp only [rR_sF, rR_sA, rR_sT, rR_sL] at e266_0 e266_1 e266_2 e266_3 e266_4 e266_5 e266_6 e266_7 e266_8); omega)
      have WNp_266 := e266_0 WNp_225; clear e266_0
      have T0 := EL.tx hp_2 M1 q266_6 (by first | omega | (simp only [rF_sT, f42, f42n (show (7 : Nat) ≠ 42 by decide)]; omega)) (by first | omega | (simp only [rF_sT, f42, f42n (show (7 : Nat) ≠ 42 by decide)]; omega))
      obtain ⟨⟨ht, nt, xt, T1⟩, T2, T3⟩ := T0
      refine ⟨(by (try simp only [Ks266]); (all_goals (repeat' (first | with_reducible intro _ | with_reducible apply And.intro))); all_goals (first | assumption | trivial | omega | (have zz_ := fz_z (by assumption); omega) | (split <;> omega) | (unfold BPre; exact M2) | (unfold ELI MID; exact ⟨⟨_, _, _, _, T1⟩, T2, by rw [rA_sT34 hp_2, rF_sT]; exact T3⟩) | (exact EL.word hp_11 hp_6 hp_12.symm (by omega)) | (exact EL.out I171_9 (by omega) (by omega)) | done)), ?_⟩
      exact (by (try simp only [inv_X14_element_171, mu_X14_element_171, mu_X14_element_171, reduceIte, and_true, true_and, and_false, false_and, and_self, Nat.reduceEqDiff, fz_sA, rF_sA, rA_sA, rR_sA, rF_sT, rR_sT, sT_sF, fz_sT, rA_sT26 hp_2, rA_sT27 hp_2, rA_sT34 hp_2, rA_sT35 hp_2, rA_sT36 hp_2, rA_sT37 hp_2, rA_sT40 hp_2, TPRp_sT hp_2, WNp_sT hp_2, VMp_sT hp_2, KYp_sT hp_2, PPp_sT hp_2, WFp_sT hp_2, CCp_sT hp_2, rNMp_sT2, PNp_sT2, Ks266]); (all_goals (repeat' (first | with_reducible intro _ | with_reducible apply And.intro))); all_goals (first | assumption | trivial | omega | (have zz_ := fz_z (by assumption); omega) | (split <;> omega) | (unfold BPre; exact M2) | (unfold ELI MID; exact ⟨⟨_, _, _, _, T1⟩, T2, by rw [rA_sT34 hp_2, rF_sT]; exact T3⟩) | (exact EL.word hp_11 hp_6 hp_12.symm (by omega)) | (exact EL.out I171_9 (by omega) (by omega)) | done))
    · refine ⟨(by (try simp only [Ks171]); (all_goals (repeat' (first | with_reducible intro _ | with_reducible apply And.intro))); all_goals (first | assumption | trivial | omega | (have zz_ := fz_z (by assumption); omega) | (split <;> omega) | (unfold BPre; exact M2) | (unfold ELI MID; exact ⟨⟨_, _, _, _, T1⟩, T2, by rw [rA_sT34 hp_2, rF_sT]; exact T3⟩) | (exact EL.word hp_11 hp_6 hp_12.symm (by omega)) | (exact EL.out I171_9 (by omega) (by omega)) | done)), ?_⟩
      intro hr_; unfold rng at hr_
      refine ⟨(by (try simp only [pre_X14_node_t, Ks171]); (all_goals (repeat' (first | with_reducible intro _ | with_reducible apply And.intro))); all_goals (first | assumption | trivial | omega | (have zz_ := fz_z (by assumption); omega) | (split <;> omega) | (unfold BPre; exact M2) | (unfold ELI MID; exact ⟨⟨_, _, _, _, T1⟩, T2, by rw [rA_sT34 hp_2, rF_sT]; exact T3⟩) | (exact EL.word hp_11 hp_6 hp_12.symm (by omega)) | (exact EL.out I171_9 (by omega) (by omega)) | done)), ?_⟩
      intro v225 s225 hv225 Ws225 e225_0 e225_1 e225_2 e225_3 e225_4 e225_5 e225_6 e225_7 e225_8 e225_9 q225
      unfold rng at hv225
      unfold post_X14_node_t at q225
      obtain ⟨q225_1, q225_2, q225_3, q225_4, q225_5, q225_6, q225_7, q225_8, q225_9, q225_10⟩ := q225
      (try simp only [Ks171] at q225_1 q225_2 q225_3 q225_4 q225_5 q225_6 q225_7 q225_8 q225_9 q225_10 e225_0 e225_1 e225_2 e225_3 e225_4 e225_5 e225_6 e225_7 e225_8 e225_9)
      have Ks225 : rR s225 7 = rR σ 7 := by first | assumption | ((try simp only [rR_sF, rR_sA, rR_sT, rR_sL] at e225_0 e225_1 e225_2 e225_3 e225_4 e225_5 e225_6 e225_7 e225_8 e225_9); omega)
      have WNp_225 := e225_0 WNp_171; clear e225_0
      have D225 : ND s171 s225 (rR σ 7) v225 8 _ 0 := ⟨q225_3, q225_1, q225_2, q225_4, q225_5, q225_6, q225_9, by omega, by omega, by omega⟩
      have M0 := EL.br hp_2 I171_9 (by omega) (by omega) D225 (by omega) (by omega) (by omega) (by omega)
      obtain ⟨hm, Sm, nm_, xm, M1⟩ := M0
      obtain ⟨M2, M3, M4⟩ := M1.pre
      refine ⟨(by (try simp only [rng, Ks225]); (all_goals (repeat' (first | with_reducible intro _ | with_reducible apply And.intro))); all_goals (first | assumption | trivial | omega | (have zz_ := fz_z (by assumption); omega) | (split <;> omega) | (unfold BPre; exact M2) | (unfold ELI MID; exact ⟨⟨_, _, _, _, T1⟩, T2, by rw [rA_sT34 hp_2, rF_sT]; exact T3⟩) | (exact EL.word hp_11 hp_6 hp_12.symm (by omega)) | (exact EL.out I171_9 (by omega) (by omega)) | done)), ?_⟩
      refine ⟨(by (try simp only [reduceIte, and_true, true_and, and_false, false_and, and_self, Nat.reduceEqDiff, fz_sF42, rF_sF, rA_sF, rR_sF, tr_sF, rNMp_sF, PNp_sF, GS_F42, OP_F42, NR_F42, LI_F42, RG_l42, RG_r42, TPRp_sF42, WNp_sF42, VMp_sF42, KYp_sF42, PPp_sF42, WFp_sF42, CCp_sF42, Ks225]); (all_goals (repeat' (first | with_reducible intro _ | with_reducible apply And.intro))); all_goals (first | assumption | trivial | omega | (have zz_ := fz_z (by assumption); omega) | (split <;> omega) | (unfold BPre; exact M2) | (unfold ELI MID; exact ⟨⟨_, _, _, _, T1⟩, T2, by rw [rA_sT34 hp_2, rF_sT]; exact T3⟩) | (exact EL.word hp_11 hp_6 hp_12.symm (by omega)) | (exact EL.out I171_9 (by omega) (by omega)) | done)), ?_⟩
      refine ⟨(hm, (Sm, (nm_, (B.2.2.2.1, (xm, B.2.2.2.2.2))))), ?_⟩
      refine ⟨(by (try simp only [pre_X14_build, reduceIte, and_true, true_and, and_false, false_and, and_self, Nat.reduceEqDiff, fz_sF42, rF_sF, rA_sF, rR_sF, tr_sF, rNMp_sF, PNp_sF, GS_F42, OP_F42, NR_F42, LI_F42, RG_l42, RG_r42, TPRp_sF42, WNp_sF42, VMp_sF42, KYp_sF42, PPp_sF42, WFp_sF42, CCp_sF42, fz_sA, rF_sA, rA_sA, rR_sA, rF_sT, rR_sT, sT_sF, fz_sT, rA_sT26 hp_2, rA_sT27 hp_2, rA_sT34 hp_2, rA_sT35 hp_2, rA_sT36 hp_2, rA_sT37 hp_2, rA_sT40 hp_2, TPRp_sT hp_2, WNp_sT hp_2, VMp_sT hp_2, KYp_sT hp_2, PPp_sT hp_2, WFp_sT hp_2, CCp_sT hp_2, rNMp_sT5, PNp_sT5, Ks225]); (all_goals (repeat' (first | with_reducible intro _ | with_reducible apply And.intro))); all_goals (first | assumption | trivial | omega | (have zz_ := fz_z (by assumption); omega) | (split <;> omega) | (unfold BPre; exact M2) | (unfold ELI MID; exact ⟨⟨_, _, _, _, T1⟩, T2, by rw [rA_sT34 hp_2, rF_sT]; exact T3⟩) | (exact EL.word hp_11 hp_6 hp_12.symm (by omega)) | (exact EL.out I171_9 (by omega) (by omega)) | done)), ?_⟩
      refine ⟨(by (try simp only [rk_X14_build, reduceIte, and_true, true_and, and_false, false_and, and_self, Nat.reduceEqDiff, fz_sF42, rF_sF, rA_sF, rR_sF, tr_sF, rNMp_sF, PNp_sF, GS_F42, OP_F42, NR_F42, LI_F42, RG_l42, RG_r42, TPRp_sF42, WNp_sF42, VMp_sF42, KYp_sF42, PPp_sF42, WFp_sF42, CCp_sF42, fz_sA, rF_sA, rA_sA, rR_sA, rF_sT, rR_sT, sT_sF, fz_sT, rA_sT26 hp_2, rA_sT27 hp_2, rA_sT34 hp_2, rA_sT35 hp_2, rA_sT36 hp_2, rA_sT37 hp_2, rA_sT40 hp_2, TPRp_sT hp_2, WNp_sT hp_2, VMp_sT hp_2, KYp_sT hp_2, PPp_sT hp_2, WFp_sT hp_2, CCp_sT hp_2, rNMp_sT5, PNp_sT5, Ks225]); (all_goals (repeat' (first | with_reducible intro _ | with_reducible apply And.intro))); all_goals (first | assumption | trivial | omega | (have zz_ := fz_z (by assumption); omega) | (split <;> omega) | (unfold BPre; exact M2) | (unfold ELI MID; exact ⟨⟨_, _, _, _, T1⟩, T2, by rw [rA_sT34 hp_2, rF_sT]; exact T3⟩) | (exact EL.word hp_11 hp_6 hp_12.symm (by omega)) | (exact EL.out I171_9 (by omega) (by omega)) | done)), ?_⟩
      intro v266 s266 hv266 Ws266 e266_0 e266_1 e266_2 e266_3 e266_4 e266_5 e266_6 e266_7 e266_8 q266
      unfold rng at hv266
      unfold post_X14_build at q266
      obtain ⟨q266_1, q266_2, q266_3, q266_4, q266_5, q266_6, q266_7⟩ := q266
      (try simp only [reduceIte, and_true, true_and, and_false, false_and, and_self, Nat.reduceEqDiff, fz_sF42, rF_sF, rA_sF, rR_sF, tr_sF, rNMp_sF, PNp_sF, GS_F42, OP_F42, NR_F42, LI_F42, RG_l42, RG_r42, TPRp_sF42, WNp_sF42, VMp_sF42, KYp_sF42, PPp_sF42, WFp_sF42, CCp_sF42, fz_sA, rF_sA, rA_sA, rR_sA, rF_sT, rR_sT, sT_sF, fz_sT, rA_sT26 hp_2, rA_sT27 hp_2, rA_sT34 hp_2, rA_sT35 hp_2, rA_sT36 hp_2, rA_sT37 hp_2, rA_sT40 hp_2, TPRp_sT hp_2, WNp_sT hp_2, VMp_sT hp_2, KYp_sT hp_2, PPp_sT hp_2, WFp_sT hp_2, CCp_sT hp_2, rNMp_sT5, PNp_sT5, Ks225] at q266_1 q266_2 q266_3 q266_4 q266_5 q266_6 q266_7 e266_0 e266_1 e266_2 e266_3 e266_4 e266_5 e266_6 e266_7 e266_8)
      have Ks266 : rR s266 7 = rR σ 7 := by first | assumption | ((try simp only [rR_sF, rR_sA, rR_sT, rR_sL] at e266_0 e266_1 e266_2 e266_3 e266_4 e266_5 e266_6 e266_7 e266_8); omega)
      have WNp_266 := e266_0 WNp_225; clear e266_0
      have T0 := EL.tx hp_2 M1 q266_6 (by first | omega | (simp only [rF_sT, f42, f42n (show (7 : Nat) ≠ 42 by decide)]; omega)) (by first | omega | (simp only [rF_sT, f42, f42n (show (7 : Nat) ≠ 42 by decide)]; omega))
      obtain ⟨⟨ht, nt, xt, T1⟩, T2, T3⟩ := T0
      refine ⟨(by (try simp only [Ks266]); (all_goals (repeat' (first | with_reducible intro _ | with_reducible apply And.intro))); all_goals (first | assumption | trivial | omega | (have zz_ := fz_z (by assumption); omega) | (split <;> omega) | (unfold BPre; exact M2) | (unfold ELI MID; exact ⟨⟨_, _, _, _, T1⟩, T2, by rw [rA_sT34 hp_2, rF_sT]; exact T3⟩) | (exact EL.word hp_11 hp_6 hp_12.symm (by omega)) | (exact EL.out I171_9 (by omega) (by omega)) | done)), ?_⟩
      exact (by (try simp only [inv_X14_element_171, mu_X14_element_171, mu_X14_element_171, reduceIte, and_true, true_and, and_false, false_and, and_self, Nat.reduceEqDiff, fz_sA, rF_sA, rA_sA, rR_sA, rF_sT, rR_sT, sT_sF, fz_sT, rA_sT26 hp_2, rA_sT27 hp_2, rA_sT34 hp_2, rA_sT35 hp_2, rA_sT36 hp_2, rA_sT37 hp_2, rA_sT40 hp_2, TPRp_sT hp_2, WNp_sT hp_2, VMp_sT hp_2, KYp_sT hp_2, PPp_sT hp_2, WFp_sT hp_2, CCp_sT hp_2, rNMp_sT2, PNp_sT2, Ks266]); (all_goals (repeat' (first | with_reducible intro _ | with_reducible apply And.intro))); all_goals (first | assumption | trivial | omega | (have zz_ := fz_z (by assumption); omega) | (split <;> omega) | (unfold BPre; exact M2) | (unfold ELI MID; exact ⟨⟨_, _, _, _, T1⟩, T2, by rw [rA_sT34 hp_2, rF_sT]; exact T3⟩) | (exact EL.word hp_11 hp_6 hp_12.symm (by omega)) | (exact EL.out I171_9 (by omega) (by omega)) | done))
set_option maxHeartbeats 20000000 in
theorem vX14_element_171m (n : Nat) (σ : rS) (x1 : Int) (gg : Nat) (B : GBt) (hwf : rWF σ) (hx1 : rng x1) (hp : pre_X14_element σ x1 gg B) (hr : rk_X14_element σ x1 gg B ≤ n + 1) : VC_X14_element_171m n σ x1 gg B := by
  unfold pre_X14_element at hp
  obtain ⟨hp_1, hp_2, hp_3, hp_4, hp_5, hp_6, hp_7, hp_8, hp_9, hp_10, hp_11, hp_12, hp_13, hp_14⟩ := hp
  unfold rng at hx1
  subst hp_1
  unfold rk_X14_element at hr
  have wn_ := hp_10
  unfold WNp at wn_
  obtain ⟨wn1, wn2, wn3, wn4, wn5⟩ := wn_ (rF σ 0 42) (by omega) (by omega)
  clear wn_
  unfold VC_X14_element_171m
  (try simp only [inv_X14_element_171, mu_X14_element_171]); (all_goals (repeat' (first | with_reducible intro _ | with_reducible apply And.intro))); all_goals (first | assumption | omega | grind (splits := 20))
def Q_bld (l : Launch) (G : zG) (κ : Nat → Nat) (n : Nat) : Prop := (∀ (σ : rS) (gg : Nat) (B : GBt), rWF σ → pre_X14_build σ gg B → rk_X14_build σ gg B ≤ n → rMi l G κ yX14_build cX14_build 6 .int (n + 20) (n * 40 + 600) [.ref (κ 0)] σ (fun x s => rKeep 0x40000000000 0x80 0 0x7f 0 σ s ∧ post_X14_build σ gg B x s)) ∧ (∀ (σ : rS) (x1 : Int) (gg : Nat) (B : GBt), rWF σ → rng x1 → pre_X14_element σ x1 gg B → rk_X14_element σ x1 gg B ≤ n → rMi l G κ yX14_element cX14_element 6 .int (n + 20) (n * 40 + 600) [.ref (κ 0), iv x1] σ (fun x s => rKeep 0x40000000000 0x80 0 0x7f 0 σ s ∧ post_X14_element σ x1 gg B x s))
theorem qX14_build {l : Launch} {G : zG} {κ : Nat → Nat} {n : Nat} (h : Q_bld l G κ n) : (∀ (σ : rS) (gg : Nat) (B : GBt), rWF σ → pre_X14_build σ gg B → rk_X14_build σ gg B ≤ n → rMi l G κ yX14_build cX14_build 6 .int (n + 20) (n * 40 + 600) [.ref (κ 0)] σ (fun x s => rKeep 0x40000000000 0x80 0 0x7f 0 σ s ∧ post_X14_build σ gg B x s)) := h.1
theorem qX14_element {l : Launch} {G : zG} {κ : Nat → Nat} {n : Nat} (h : Q_bld l G κ n) : (∀ (σ : rS) (x1 : Int) (gg : Nat) (B : GBt), rWF σ → rng x1 → pre_X14_element σ x1 gg B → rk_X14_element σ x1 gg B ≤ n → rMi l G κ yX14_element cX14_element 6 .int (n + 20) (n * 40 + 600) [.ref (κ 0), iv x1] σ (fun x s => rKeep 0x40000000000 0x80 0 0x7f 0 σ s ∧ post_X14_element σ x1 gg B x s)) := h.2
theorem wX14_build (l : Launch) (G : zG) (κ : Nat → Nat) (n : Nat) (ih : Q_bld l G κ n) (σ : rS) (gg : Nat) (B : GBt) (hwf : rWF σ) (Q : Int → rS → Prop) (h : VC_X14_build n σ gg B Q) (h_14 : VC_X14_build_14 n σ gg B Q) (h_14m : VC_X14_build_14m n σ gg B) : rMi l G κ yX14_build cX14_build 6 .int (n + 1 + 20) ((n + 1) * 40 + 600) [.ref (κ 0)] σ (fun x s => rKeep 0x40000000000 0x80 0 0x7f 0 σ s ∧ Q x s) := by
  refine zMi.intro (by decide +kernel) (Nat.le_of_ble_eq_true rfl) (fun X hC hR => ?_)
  obtain ⟨g0, h⟩ := h
  refine z_aload_n hC (pc := 0) 0 dX14_build_0 rfl rfl ?_
  refine z_bipush hC (pc := 1) (v := Int32.ofInt 9) dX14_build_1 (by decide) ?_
  refine z_iconst hC (pc := 3) (v := Int32.ofInt 0) dX14_build_3 (by decide) ?_
  refine z_iconst hC (pc := 4) (v := Int32.ofInt 0) dX14_build_4 (by decide) ?_
  refine z_iconst hC (pc := 5) (v := Int32.ofInt 0) dX14_build_5 (by decide) ?_
  obtain ⟨p10, h⟩ := h
  refine y_callVi hC (pc := 6) (As := [iv 9, iv 0, iv 0, iv 0]) (kX14_node_t l G κ σ 9 0 0 0 gg hwf (r_lit rfl) (r_lit rfl) (r_lit rfl) (r_lit rfl) p10) dmX14_node zf14 rOb_0 dX14_build_6 zw3170 rfl rfl (Nat.le_of_ble_eq_true rfl) (Nat.le_of_ble_eq_true rfl) (by omega) (by omega) (Nat.le_of_ble_eq_true rfl) (kk := fun v6 s6 hv6 Ws6 qs6 => ?_)
  have h := h v6 s6 hv6 Ws6 (WNp.keep qs6.1 rfl rfl rfl rfl rfl) (qs6.1.R rfl) (qs6.1.F rfl) (qs6.1.F rfl) (qs6.1.F rfl) (fun i => qs6.1.A (f := 34) (by decide) rfl) (fun i => qs6.1.A (f := 35) (by decide) rfl) (fun i => qs6.1.A (f := 36) (by decide) rfl) (qs6.1.FG g0 rfl) (qs6.1.FG g0 rfl) qs6.2
  refine z_istore_n hC (pc := 9) (lv' := [(1, iv v6), (0, .ref (κ 0))]) dX14_build_9 rfl (by decide) rfl ?_
  refine z_iconst hC (pc := 10) (v := Int32.ofInt 0) dX14_build_10 (by decide) ?_
  refine z_istore_n hC (pc := 11) (lv' := [(2, iv 0), (1, iv v6), (0, .ref (κ 0))]) dX14_build_11 rfl (by decide) rfl ?_
  refine z_iconst hC (pc := 12) (v := Int32.ofInt 1) dX14_build_12 (by decide) ?_
  refine z_istore_n hC (pc := 13) (lv' := [(3, iv 1), (2, iv 0), (1, iv v6), (0, .ref (κ 0))]) dX14_build_13 rfl (by decide) rfl ?_
  have j14 : ∀ (d14 : Nat), ∀ (s14 : rS) (y14_1 : Int) (y14_2 : Int) (y14_3 : Int), rWF s14 → rng y14_1 → rng y14_2 → rng y14_3 → rKeep 0x40000000000 0x80 0 0x7f 0 σ s14 → inv_X14_build_14 σ gg B s14 y14_1 y14_2 y14_3 → (mu_X14_build_14 σ gg B s14 y14_1 y14_2 y14_3) ≤ d14 → zS X G 6 (rW G κ s14) [(0, .ref (κ 0)), (1, iv y14_1), (2, iv y14_2), (3, iv y14_3)] 0 0 14 [] := by
    intro d14
    induction d14 with
    | zero =>
      intro s14 y14_1 y14_2 y14_3 Ws14 hy14_1 hy14_2 hy14_3 kJ hI hmu
      exact absurd hmu (by have := h_14m  s14 y14_1 y14_2 y14_3 Ws14 hy14_1 hy14_2 hy14_3 (WNp.keep kJ rfl rfl rfl rfl rfl) (kJ.R rfl) (kJ.F rfl) (kJ.F rfl) (fun i => kJ.A (f := 34) (by decide) rfl) (fun i => kJ.A (f := 35) (by decide) rfl) (fun i => kJ.A (f := 36) (by decide) rfl) (kJ.FG g0 rfl) (kJ.FG g0 rfl) hI; omega)
    | succ d14 ih14 =>
      intro s14 y14_1 y14_2 y14_3 Ws14 hy14_1 hy14_2 hy14_3 kJ hI hmu14
      have h := h_14  s14 y14_1 y14_2 y14_3 Ws14 hy14_1 hy14_2 hy14_3 (WNp.keep kJ rfl rfl rfl rfl rfl) (kJ.R rfl) (kJ.F rfl) (kJ.F rfl) (fun i => kJ.A (f := 34) (by decide) rfl) (fun i => kJ.A (f := 35) (by decide) rfl) (fun i => kJ.A (f := 36) (by decide) rfl) (kJ.FG g0 rfl) (kJ.FG g0 rfl) hI
      refine z_iload_n hC (pc := 14) 3 dX14_build_14 rfl rfl ?_
      obtain ⟨hT, hF⟩ := h
      refine y_if_eq hC (pc := 15) 172 hy14_3 dX14_build_15 (by decide) (fun c => ?_) (fun c => ?_)
      · have h := hT c
        refine z_iload_n hC (pc := 172) 1 dX14_build_172 rfl rfl ?_
        exact y_reti hR dX14_build_173 rfl hy14_1 Ws14 (Nat.le_of_ble_eq_true rfl) (Nat.le_of_ble_eq_true rfl) ⟨(rKeep.tr rKeep.rf kJ rfl rfl rfl rfl rfl), h⟩
      · have h := hF c
        refine z_aload_n hC (pc := 18) 0 dX14_build_18 rfl rfl ?_
        refine y_get hC (pc := 19) zf14 rOb_0 42 (v := iv (rF s14 0 42)) dX14_build_19 zw2509 (rv_i (Or.inl rfl) rfl) (kk := ?_)
        have h := h (Ws14.f _ _)
        refine z_aload_n hC (pc := 22) 0 dX14_build_22 rfl rfl ?_
        refine y_get hC (pc := 23) zf14 rOb_0 38 (v := iv (rF s14 0 38)) dX14_build_23 zw2505 (rv_i (Or.inl rfl) rfl) (kk := ?_)
        have h := h (Ws14.f _ _)
        obtain ⟨hT, hF⟩ := h
        refine y_icmp_ge hC (pc := 26) 172 (Ws14.f _ _) (Ws14.f _ _) dX14_build_26 (by decide) (fun c => ?_) (fun c => ?_)
        · have h := hT c
          refine z_iload_n hC (pc := 172) 1 dX14_build_172 rfl rfl ?_
          exact y_reti hR dX14_build_173 rfl hy14_1 Ws14 (Nat.le_of_ble_eq_true rfl) (Nat.le_of_ble_eq_true rfl) ⟨(rKeep.tr rKeep.rf kJ rfl rfl rfl rfl rfl), h⟩
        · have h := hF c
          refine z_aload_n hC (pc := 29) 0 dX14_build_29 rfl rfl ?_
          refine y_get hC (pc := 30) zf14 rOb_0 34 (v := .ref (κ 1034)) dX14_build_30 zw2501 (rv_c rfl) (kk := ?_)
          refine z_aload_n hC (pc := 33) 0 dX14_build_33 rfl rfl ?_
          refine y_get hC (pc := 34) zf14 rOb_0 42 (v := iv (rF s14 0 42)) dX14_build_34 zw2509 (rv_i (Or.inl rfl) rfl) (kk := ?_)
          obtain ⟨b11, h⟩ := h
          refine y_iald hC (pc := 37) (rAr_m rfl) dX14_build_37 b11 (v := (rA s14 1034 (rF s14 0 42))) rfl (kk := ?_)
          have h := h (Ws14.a _ _)
          refine z_istore hC (pc := 38) (lv' := [(4, iv (rA s14 1034 (rF s14 0 42))), (0, .ref (κ 0)), (1, iv y14_1), (2, iv y14_2), (3, iv y14_3)]) dX14_build_38 (by decide) rfl ?_
          refine z_iload hC (pc := 40) 0 dX14_build_40 rfl ?_
          refine z_bipush hC (pc := 42) (v := Int32.ofInt 22) dX14_build_42 (by decide) ?_
          obtain ⟨hT, hF⟩ := h
          refine y_icmp_eq hC (pc := 44) 72 (Ws14.a _ _) (r_lit rfl) dX14_build_44 (by decide) (fun c => ?_) (fun c => ?_)
          · have h := hT c
            refine z_iconst hC (pc := 72) (v := Int32.ofInt 0) dX14_build_72 (by decide) ?_
            refine z_istore_n hC (pc := 73) (lv' := [(3, iv 0), (4, iv (rA s14 1034 (rF s14 0 42))), (0, .ref (κ 0)), (1, iv y14_1), (2, iv y14_2)]) dX14_build_73 rfl (by decide) rfl ?_
            refine z_iload_n hC (pc := 74) 0 dX14_build_74 rfl rfl ?_
            refine y_if_ne hC (pc := 75) 81 (r_lit rfl) dX14_build_75 (by decide) (fun c => absurd c (by decide)) (fun _ => ?_)
            refine z_goto hC (pc := 78) 14 dX14_build_78 (by decide) ?_
            refine z_lvs [2, 3, 4, 0] rfl ?_
            obtain ⟨hI, hm⟩ := h
            exact ih14 s14 y14_1 y14_2 0 Ws14 hy14_1 hy14_2 (r_lit rfl) (rKeep.tr rKeep.rf kJ rfl rfl rfl rfl rfl) hI (by omega)
          · have h := hF c
            refine z_iload hC (pc := 47) 0 dX14_build_47 rfl ?_
            refine z_bipush hC (pc := 49) (v := Int32.ofInt 23) dX14_build_49 (by decide) ?_
            obtain ⟨hT, hF⟩ := h
            refine y_icmp_eq hC (pc := 51) 72 (Ws14.a _ _) (r_lit rfl) dX14_build_51 (by decide) (fun c => ?_) (fun c => ?_)
            · have h := hT c
              refine z_iconst hC (pc := 72) (v := Int32.ofInt 0) dX14_build_72 (by decide) ?_
              refine z_istore_n hC (pc := 73) (lv' := [(3, iv 0), (4, iv (rA s14 1034 (rF s14 0 42))), (0, .ref (κ 0)), (1, iv y14_1), (2, iv y14_2)]) dX14_build_73 rfl (by decide) rfl ?_
              refine z_iload_n hC (pc := 74) 0 dX14_build_74 rfl rfl ?_
              refine y_if_ne hC (pc := 75) 81 (r_lit rfl) dX14_build_75 (by decide) (fun c => absurd c (by decide)) (fun _ => ?_)
              refine z_goto hC (pc := 78) 14 dX14_build_78 (by decide) ?_
              refine z_lvs [2, 3, 4, 0] rfl ?_
              obtain ⟨hI, hm⟩ := h
              exact ih14 s14 y14_1 y14_2 0 Ws14 hy14_1 hy14_2 (r_lit rfl) (rKeep.tr rKeep.rf kJ rfl rfl rfl rfl rfl) hI (by omega)
            · have h := hF c
              refine z_iload hC (pc := 54) 0 dX14_build_54 rfl ?_
              refine z_bipush hC (pc := 56) (v := Int32.ofInt 24) dX14_build_56 (by decide) ?_
              obtain ⟨hT, hF⟩ := h
              refine y_icmp_eq hC (pc := 58) 72 (Ws14.a _ _) (r_lit rfl) dX14_build_58 (by decide) (fun c => ?_) (fun c => ?_)
              · have h := hT c
                refine z_iconst hC (pc := 72) (v := Int32.ofInt 0) dX14_build_72 (by decide) ?_
                refine z_istore_n hC (pc := 73) (lv' := [(3, iv 0), (4, iv (rA s14 1034 (rF s14 0 42))), (0, .ref (κ 0)), (1, iv y14_1), (2, iv y14_2)]) dX14_build_73 rfl (by decide) rfl ?_
                refine z_iload_n hC (pc := 74) 0 dX14_build_74 rfl rfl ?_
                refine y_if_ne hC (pc := 75) 81 (r_lit rfl) dX14_build_75 (by decide) (fun c => absurd c (by decide)) (fun _ => ?_)
                refine z_goto hC (pc := 78) 14 dX14_build_78 (by decide) ?_
                refine z_lvs [2, 3, 4, 0] rfl ?_
                obtain ⟨hI, hm⟩ := h
                exact ih14 s14 y14_1 y14_2 0 Ws14 hy14_1 hy14_2 (r_lit rfl) (rKeep.tr rKeep.rf kJ rfl rfl rfl rfl rfl) hI (by omega)
              · have h := hF c
                refine z_iload hC (pc := 61) 0 dX14_build_61 rfl ?_
                refine z_bipush hC (pc := 63) (v := Int32.ofInt 26) dX14_build_63 (by decide) ?_
                obtain ⟨hT, hF⟩ := h
                refine y_icmp_eq hC (pc := 65) 72 (Ws14.a _ _) (r_lit rfl) dX14_build_65 (by decide) (fun c => ?_) (fun c => ?_)
                · have h := hT c
                  refine z_iconst hC (pc := 72) (v := Int32.ofInt 0) dX14_build_72 (by decide) ?_
                  refine z_istore_n hC (pc := 73) (lv' := [(3, iv 0), (4, iv (rA s14 1034 (rF s14 0 42))), (0, .ref (κ 0)), (1, iv y14_1), (2, iv y14_2)]) dX14_build_73 rfl (by decide) rfl ?_
                  refine z_iload_n hC (pc := 74) 0 dX14_build_74 rfl rfl ?_
                  refine y_if_ne hC (pc := 75) 81 (r_lit rfl) dX14_build_75 (by decide) (fun c => absurd c (by decide)) (fun _ => ?_)
                  refine z_goto hC (pc := 78) 14 dX14_build_78 (by decide) ?_
                  refine z_lvs [2, 3, 4, 0] rfl ?_
                  obtain ⟨hI, hm⟩ := h
                  exact ih14 s14 y14_1 y14_2 0 Ws14 hy14_1 hy14_2 (r_lit rfl) (rKeep.tr rKeep.rf kJ rfl rfl rfl rfl rfl) hI (by omega)
                · have h := hF c
                  refine z_iconst hC (pc := 68) (v := Int32.ofInt 1) dX14_build_68 (by decide) ?_
                  refine z_goto hC (pc := 69) 73 dX14_build_69 (by decide) ?_
                  refine z_istore_n hC (pc := 73) (lv' := [(3, iv 1), (4, iv (rA s14 1034 (rF s14 0 42))), (0, .ref (κ 0)), (1, iv y14_1), (2, iv y14_2)]) dX14_build_73 rfl (by decide) rfl ?_
                  refine z_iload_n hC (pc := 74) 0 dX14_build_74 rfl rfl ?_
                  refine y_if_ne hC (pc := 75) 81 (r_lit rfl) dX14_build_75 (by decide) (fun _ => ?_) (fun c => absurd c (by decide))
                  refine z_aload_n hC (pc := 81) 2 dX14_build_81 rfl rfl ?_
                  refine y_get hC (pc := 82) zf14 rOb_0 37 (v := .ref (κ 1037)) dX14_build_82 zw2504 (rv_c rfl) (kk := ?_)
                  refine z_aload_n hC (pc := 85) 2 dX14_build_85 rfl rfl ?_
                  refine y_get hC (pc := 86) zf14 rOb_0 42 (v := iv (rF s14 0 42)) dX14_build_86 zw2509 (rv_i (Or.inl rfl) rfl) (kk := ?_)
                  obtain ⟨b12, h⟩ := h
                  refine y_zald hC (pc := 89) (rAr_m rfl) dX14_build_89 b12 (v := (rA s14 1037 (rF s14 0 42))) rfl (kk := ?_)
                  have h := h (Ws14.a _ _)
                  obtain ⟨hT, hF⟩ := h
                  refine y_if_ne hC (pc := 90) 107 (Ws14.a _ _) dX14_build_90 (by decide) (fun c => ?_) (fun c => ?_)
                  · have h := hT c
                    refine z_iconst hC (pc := 107) (v := Int32.ofInt 0) dX14_build_107 (by decide) ?_
                    refine z_goto hC (pc := 108) 117 dX14_build_108 (by decide) ?_
                    refine z_istore hC (pc := 117) (lv' := [(5, iv 0), (3, iv 1), (4, iv (rA s14 1034 (rF s14 0 42))), (0, .ref (κ 0)), (1, iv y14_1), (2, iv y14_2)]) dX14_build_117 (by decide) rfl ?_
                    refine z_iload hC (pc := 119) 0 dX14_build_119 rfl ?_
                    refine y_if_ne hC (pc := 121) 137 (r_lit rfl) dX14_build_121 (by decide) (fun c => absurd c (by decide)) (fun _ => ?_)
                    refine z_aload_n hC (pc := 124) 3 dX14_build_124 rfl rfl ?_
                    refine z_dup hC (pc := 125) dX14_build_125 rfl ?_
                    refine y_get hC (pc := 126) zf14 rOb_0 42 (v := iv (rF s14 0 42)) dX14_build_126 zw2509 (rv_i (Or.inl rfl) rfl) (kk := ?_)
                    refine z_iconst hC (pc := 129) (v := Int32.ofInt 1) dX14_build_129 (by decide) ?_
                    refine y_iadd hC (pc := 130) (v := ((rF s14 0 42) + 1)) dX14_build_130 rfl ?_
                    obtain ⟨r13, h⟩ := h
                    refine y_putI hC (pc := 131) zf14 rOb_0 42 (x := ((rF s14 0 42) + 1)) dX14_build_131 zw2509 (Or.inl rfl) rfl rfl (kk := ?_)
                    have W14 := Ws14.sF (q := 0) (f := 42) (x := ((rF s14 0 42) + 1)) r13
                    refine z_goto hC (pc := 134) 14 dX14_build_134 (by decide) ?_
                    refine z_lvs [3, 4, 5, 1] rfl ?_
                    obtain ⟨hI, hm⟩ := h
                    exact ih14 (sF s14 0 42 ((rF s14 0 42) + 1)) y14_1 y14_2 1 W14 hy14_1 hy14_2 (r_lit rfl) (rKeep.tr (rKeep.tr rKeep.rf kJ rfl rfl rfl rfl rfl) (rKeep.sF0 (f := 42)) rfl rfl rfl rfl rfl) hI (by omega)
                  · have h := hF c
                    refine z_iload hC (pc := 93) 1 dX14_build_93 rfl ?_
                    refine z_bipush hC (pc := 95) (v := Int32.ofInt 21) dX14_build_95 (by decide) ?_
                    obtain ⟨hT, hF⟩ := h
                    refine y_icmp_eq hC (pc := 97) 107 (Ws14.a _ _) (r_lit rfl) dX14_build_97 (by decide) (fun c => ?_) (fun c => ?_)
                    · have h := hT c
                      refine z_iconst hC (pc := 107) (v := Int32.ofInt 0) dX14_build_107 (by decide) ?_
                      refine z_goto hC (pc := 108) 117 dX14_build_108 (by decide) ?_
                      refine z_istore hC (pc := 117) (lv' := [(5, iv 0), (3, iv 1), (4, iv (rA s14 1034 (rF s14 0 42))), (0, .ref (κ 0)), (1, iv y14_1), (2, iv y14_2)]) dX14_build_117 (by decide) rfl ?_
                      refine z_iload hC (pc := 119) 0 dX14_build_119 rfl ?_
                      refine y_if_ne hC (pc := 121) 137 (r_lit rfl) dX14_build_121 (by decide) (fun c => absurd c (by decide)) (fun _ => ?_)
                      refine z_aload_n hC (pc := 124) 3 dX14_build_124 rfl rfl ?_
                      refine z_dup hC (pc := 125) dX14_build_125 rfl ?_
                      refine y_get hC (pc := 126) zf14 rOb_0 42 (v := iv (rF s14 0 42)) dX14_build_126 zw2509 (rv_i (Or.inl rfl) rfl) (kk := ?_)
                      refine z_iconst hC (pc := 129) (v := Int32.ofInt 1) dX14_build_129 (by decide) ?_
                      refine y_iadd hC (pc := 130) (v := ((rF s14 0 42) + 1)) dX14_build_130 rfl ?_
                      obtain ⟨r15, h⟩ := h
                      refine y_putI hC (pc := 131) zf14 rOb_0 42 (x := ((rF s14 0 42) + 1)) dX14_build_131 zw2509 (Or.inl rfl) rfl rfl (kk := ?_)
                      have W16 := Ws14.sF (q := 0) (f := 42) (x := ((rF s14 0 42) + 1)) r15
                      refine z_goto hC (pc := 134) 14 dX14_build_134 (by decide) ?_
                      refine z_lvs [3, 4, 5, 1] rfl ?_
                      obtain ⟨hI, hm⟩ := h
                      exact ih14 (sF s14 0 42 ((rF s14 0 42) + 1)) y14_1 y14_2 1 W16 hy14_1 hy14_2 (r_lit rfl) (rKeep.tr (rKeep.tr rKeep.rf kJ rfl rfl rfl rfl rfl) (rKeep.sF0 (f := 42)) rfl rfl rfl rfl rfl) hI (by omega)
                    · have h := hF c
                      refine z_iload hC (pc := 100) 1 dX14_build_100 rfl ?_
                      refine z_bipush hC (pc := 102) (v := Int32.ofInt 20) dX14_build_102 (by decide) ?_
                      obtain ⟨hT, hF⟩ := h
                      refine y_icmp_ne hC (pc := 104) 111 (Ws14.a _ _) (r_lit rfl) dX14_build_104 (by decide) (fun c => ?_) (fun c => ?_)
                      · have h := hT c
                        refine z_aload_n hC (pc := 111) 2 dX14_build_111 rfl rfl ?_
                        refine z_iload hC (pc := 112) 1 dX14_build_112 rfl ?_
                        obtain ⟨B17, h⟩ := h
                        obtain ⟨p18, h⟩ := h
                        obtain ⟨p19, h⟩ := h
                        refine y_callVi hC (pc := 114) (As := [iv (rA s14 1034 (rF s14 0 42))]) (qX14_element ih s14 (rA s14 1034 (rF s14 0 42)) gg B17 Ws14 (Ws14.a _ _) p18 p19) dmX14_element zf14 rOb_0 dX14_build_114 zw3307 rfl rfl (Nat.le_of_ble_eq_true rfl) (Nat.le_of_ble_eq_true rfl) (by omega) (by omega) (Nat.le_of_ble_eq_true rfl) (kk := fun v114 s114 hv114 Ws114 qs114 => ?_)
                        have h := h v114 s114 hv114 Ws114 (WNp.keep qs114.1 rfl rfl rfl rfl rfl) (qs114.1.R rfl) (qs114.1.F rfl) (qs114.1.F rfl) (fun i => qs114.1.A (f := 34) (by decide) rfl) (fun i => qs114.1.A (f := 35) (by decide) rfl) (fun i => qs114.1.A (f := 36) (by decide) rfl) (qs114.1.FG g0 rfl) (qs114.1.FG g0 rfl) qs114.2
                        refine z_istore hC (pc := 117) (lv' := [(5, iv v114), (3, iv 1), (4, iv (rA s14 1034 (rF s14 0 42))), (0, .ref (κ 0)), (1, iv y14_1), (2, iv y14_2)]) dX14_build_117 (by decide) rfl ?_
                        refine z_iload hC (pc := 119) 0 dX14_build_119 rfl ?_
                        obtain ⟨hT, hF⟩ := h
                        refine y_if_ne hC (pc := 121) 137 hv114 dX14_build_121 (by decide) (fun c => ?_) (fun c => ?_)
                        · have h := hT c
                          refine z_iload_n hC (pc := 137) 5 dX14_build_137 rfl rfl ?_
                          obtain ⟨hT, hF⟩ := h
                          refine y_if_ne hC (pc := 138) 155 hy14_2 dX14_build_138 (by decide) (fun c => ?_) (fun c => ?_)
                          · have h := hT c
                            refine z_aload_n hC (pc := 155) 3 dX14_build_155 rfl rfl ?_
                            refine y_get hC (pc := 156) zf14 rOb_0 7 (v := .ref (κ (rR σ 7))) dX14_build_156 zw2475 (rv_g rfl ((qs114.1.R rfl).trans (kJ.R rfl)) g0) (kk := ?_)
                            refine y_getN hC (pc := 159) zf13 (rOb_k g0) 5 (v := .ref (κ (1000 * ((rR σ 7) + 1) + 5))) dX14_build_159 zw2320 (rv_c rfl) (kk := ?_)
                            refine z_iload_n hC (pc := 162) 5 dX14_build_162 rfl rfl ?_
                            refine z_iload hC (pc := 163) 0 dX14_build_163 rfl ?_
                            obtain ⟨b20, h⟩ := h
                            refine y_iast hC (pc := 165) (rAr_k g0 rfl rfl) dX14_build_165 b20 (v := v114) (kk := ?_)
                            have W21 := Ws114.sA (p := (1000 * ((rR σ 7) + 1) + 5)) (i := y14_2) (x := v114) hv114
                            refine z_iload hC (pc := 166) 0 dX14_build_166 rfl ?_
                            refine z_istore_n hC (pc := 168) (lv' := [(2, iv v114), (5, iv v114), (3, iv 1), (4, iv (rA s14 1034 (rF s14 0 42))), (0, .ref (κ 0)), (1, iv y14_1)]) dX14_build_168 rfl (by decide) rfl ?_
                            refine z_goto hC (pc := 169) 14 dX14_build_169 (by decide) ?_
                            refine z_lvs [4, 5, 0, 2] rfl ?_
                            obtain ⟨hI, hm⟩ := h
                            exact ih14 (sT s114 (rR σ 7) 5 y14_2 v114) y14_1 v114 1 W21 hy14_1 hv114 (r_lit rfl) (rKeep.tr (rKeep.tr (rKeep.tr rKeep.rf kJ rfl rfl rfl rfl rfl) qs114.1 rfl rfl rfl rfl rfl) (rKeep.sAk (f := 5) g0 (by decide)) rfl rfl rfl rfl rfl) hI (by omega)
                          · have h := hF c
                            refine z_aload_n hC (pc := 141) 3 dX14_build_141 rfl rfl ?_
                            refine y_get hC (pc := 142) zf14 rOb_0 7 (v := .ref (κ (rR σ 7))) dX14_build_142 zw2475 (rv_g rfl ((qs114.1.R rfl).trans (kJ.R rfl)) g0) (kk := ?_)
                            refine y_getN hC (pc := 145) zf13 (rOb_k g0) 1 (v := .ref (κ (1000 * ((rR σ 7) + 1) + 1))) dX14_build_145 zw2312 (rv_c rfl) (kk := ?_)
                            refine z_iload_n hC (pc := 148) 4 dX14_build_148 rfl rfl ?_
                            refine z_iload hC (pc := 149) 0 dX14_build_149 rfl ?_
                            obtain ⟨b22, h⟩ := h
                            refine y_iast hC (pc := 151) (rAr_k g0 rfl rfl) dX14_build_151 b22 (v := v114) (kk := ?_)
                            have W23 := Ws114.sA (p := (1000 * ((rR σ 7) + 1) + 1)) (i := y14_1) (x := v114) hv114
                            refine z_goto hC (pc := 152) 166 dX14_build_152 (by decide) ?_
                            refine z_iload hC (pc := 166) 0 dX14_build_166 rfl ?_
                            refine z_istore_n hC (pc := 168) (lv' := [(2, iv v114), (5, iv v114), (3, iv 1), (4, iv (rA s14 1034 (rF s14 0 42))), (0, .ref (κ 0)), (1, iv y14_1)]) dX14_build_168 rfl (by decide) rfl ?_
                            refine z_goto hC (pc := 169) 14 dX14_build_169 (by decide) ?_
                            refine z_lvs [4, 5, 0, 2] rfl ?_
                            obtain ⟨hI, hm⟩ := h
                            exact ih14 (sT s114 (rR σ 7) 1 y14_1 v114) y14_1 v114 1 W23 hy14_1 hv114 (r_lit rfl) (rKeep.tr (rKeep.tr (rKeep.tr rKeep.rf kJ rfl rfl rfl rfl rfl) qs114.1 rfl rfl rfl rfl rfl) (rKeep.sAk (f := 1) g0 (by decide)) rfl rfl rfl rfl rfl) hI (by omega)
                        · have h := hF c
                          refine z_aload_n hC (pc := 124) 3 dX14_build_124 rfl rfl ?_
                          refine z_dup hC (pc := 125) dX14_build_125 rfl ?_
                          refine y_get hC (pc := 126) zf14 rOb_0 42 (v := iv (rF s114 0 42)) dX14_build_126 zw2509 (rv_i (Or.inl rfl) rfl) (kk := ?_)
                          have h := h (Ws114.f _ _)
                          refine z_iconst hC (pc := 129) (v := Int32.ofInt 1) dX14_build_129 (by decide) ?_
                          refine y_iadd hC (pc := 130) (v := ((rF s114 0 42) + 1)) dX14_build_130 rfl ?_
                          obtain ⟨r24, h⟩ := h
                          refine y_putI hC (pc := 131) zf14 rOb_0 42 (x := ((rF s114 0 42) + 1)) dX14_build_131 zw2509 (Or.inl rfl) rfl rfl (kk := ?_)
                          have W25 := Ws114.sF (q := 0) (f := 42) (x := ((rF s114 0 42) + 1)) r24
                          refine z_goto hC (pc := 134) 14 dX14_build_134 (by decide) ?_
                          refine z_lvs [3, 4, 5, 1] rfl ?_
                          obtain ⟨hI, hm⟩ := h
                          exact ih14 (sF s114 0 42 ((rF s114 0 42) + 1)) y14_1 y14_2 1 W25 hy14_1 hy14_2 (r_lit rfl) (rKeep.tr (rKeep.tr (rKeep.tr rKeep.rf kJ rfl rfl rfl rfl rfl) qs114.1 rfl rfl rfl rfl rfl) (rKeep.sF0 (f := 42)) rfl rfl rfl rfl rfl) hI (by omega)
                      · have h := hF c
                        refine z_iconst hC (pc := 107) (v := Int32.ofInt 0) dX14_build_107 (by decide) ?_
                        refine z_goto hC (pc := 108) 117 dX14_build_108 (by decide) ?_
                        refine z_istore hC (pc := 117) (lv' := [(5, iv 0), (3, iv 1), (4, iv (rA s14 1034 (rF s14 0 42))), (0, .ref (κ 0)), (1, iv y14_1), (2, iv y14_2)]) dX14_build_117 (by decide) rfl ?_
                        refine z_iload hC (pc := 119) 0 dX14_build_119 rfl ?_
                        refine y_if_ne hC (pc := 121) 137 (r_lit rfl) dX14_build_121 (by decide) (fun c => absurd c (by decide)) (fun _ => ?_)
                        refine z_aload_n hC (pc := 124) 3 dX14_build_124 rfl rfl ?_
                        refine z_dup hC (pc := 125) dX14_build_125 rfl ?_
                        refine y_get hC (pc := 126) zf14 rOb_0 42 (v := iv (rF s14 0 42)) dX14_build_126 zw2509 (rv_i (Or.inl rfl) rfl) (kk := ?_)
                        refine z_iconst hC (pc := 129) (v := Int32.ofInt 1) dX14_build_129 (by decide) ?_
                        refine y_iadd hC (pc := 130) (v := ((rF s14 0 42) + 1)) dX14_build_130 rfl ?_
                        obtain ⟨r26, h⟩ := h
                        refine y_putI hC (pc := 131) zf14 rOb_0 42 (x := ((rF s14 0 42) + 1)) dX14_build_131 zw2509 (Or.inl rfl) rfl rfl (kk := ?_)
                        have W27 := Ws14.sF (q := 0) (f := 42) (x := ((rF s14 0 42) + 1)) r26
                        refine z_goto hC (pc := 134) 14 dX14_build_134 (by decide) ?_
                        refine z_lvs [3, 4, 5, 1] rfl ?_
                        obtain ⟨hI, hm⟩ := h
                        exact ih14 (sF s14 0 42 ((rF s14 0 42) + 1)) y14_1 y14_2 1 W27 hy14_1 hy14_2 (r_lit rfl) (rKeep.tr (rKeep.tr rKeep.rf kJ rfl rfl rfl rfl rfl) (rKeep.sF0 (f := 42)) rfl rfl rfl rfl rfl) hI (by omega)
  refine z_lvs [3, 2, 1, 0] rfl ?_
  exact j14 _ s6 v6 0 1 Ws6 hv6 (r_lit rfl) (r_lit rfl) (rKeep.tr rKeep.rf qs6.1 rfl rfl rfl rfl rfl) h (Nat.le_refl _)
theorem kX14_build (l : Launch) (G : zG) (κ : Nat → Nat) (n : Nat) (ih : Q_bld l G κ n) (σ : rS) (gg : Nat) (B : GBt) (hwf : rWF σ) (hp : pre_X14_build σ gg B) (hr : rk_X14_build σ gg B ≤ n + 1) : rMi l G κ yX14_build cX14_build 6 .int (n + 1 + 20) ((n + 1) * 40 + 600) [.ref (κ 0)] σ (fun x s => rKeep 0x40000000000 0x80 0 0x7f 0 σ s ∧ post_X14_build σ gg B x s) := wX14_build l G κ n ih σ gg B hwf (post_X14_build σ gg B) (vX14_build n σ gg B hwf hp hr) (vX14_build_14 n σ gg B hwf hp hr) (vX14_build_14m n σ gg B hwf hp hr)
theorem wX14_element (l : Launch) (G : zG) (κ : Nat → Nat) (n : Nat) (ih : Q_bld l G κ n) (σ : rS) (x1 : Int) (gg : Nat) (B : GBt) (hwf : rWF σ) (hx1 : rng x1) (Q : Int → rS → Prop) (h : VC_X14_element n σ x1 gg B Q) (h_171 : VC_X14_element_171 n σ x1 gg B Q) (h_171m : VC_X14_element_171m n σ x1 gg B) : rMi l G κ yX14_element cX14_element 6 .int (n + 1 + 20) ((n + 1) * 40 + 600) [.ref (κ 0), iv x1] σ (fun x s => rKeep 0x40000000000 0x80 0 0x7f 0 σ s ∧ Q x s) := by
  refine zMi.intro (by decide +kernel) (Nat.le_of_ble_eq_true rfl) (fun X hC hR => ?_)
  obtain ⟨g0, h⟩ := h
  refine z_aload_n hC (pc := 0) 0 dX14_element_0 rfl rfl ?_
  refine y_get hC (pc := 1) zf14 rOb_0 42 (v := iv (rF σ 0 42)) dX14_element_1 zw2509 (rv_i (Or.inl rfl) rfl) (kk := ?_)
  have h := h (hwf.f _ _)
  refine z_istore_n hC (pc := 4) (lv' := [(2, iv (rF σ 0 42)), (0, .ref (κ 0)), (1, iv x1)]) dX14_element_4 rfl (by decide) rfl ?_
  refine z_aload_n hC (pc := 5) 1 dX14_element_5 rfl rfl ?_
  refine z_dup hC (pc := 6) dX14_element_6 rfl ?_
  refine y_get hC (pc := 7) zf14 rOb_0 42 (v := iv (rF σ 0 42)) dX14_element_7 zw2509 (rv_i (Or.inl rfl) rfl) (kk := ?_)
  refine z_iconst hC (pc := 10) (v := Int32.ofInt 1) dX14_element_10 (by decide) ?_
  refine y_iadd hC (pc := 11) (v := ((rF σ 0 42) + 1)) dX14_element_11 rfl ?_
  obtain ⟨r10, h⟩ := h
  refine y_putI hC (pc := 12) zf14 rOb_0 42 (x := ((rF σ 0 42) + 1)) dX14_element_12 zw2509 (Or.inl rfl) rfl rfl (kk := ?_)
  have W11 := hwf.sF (q := 0) (f := 42) (x := ((rF σ 0 42) + 1)) r10
  refine z_iload_n hC (pc := 15) 2 dX14_element_15 rfl rfl ?_
  refine z_iconst hC (pc := 16) (v := Int32.ofInt 1) dX14_element_16 (by decide) ?_
  obtain ⟨hT, hF⟩ := h
  refine y_icmp_eq hC (pc := 17) 30 hx1 (r_lit rfl) dX14_element_17 (by decide) (fun c => ?_) (fun c => ?_)
  · have h := hT c
    refine z_aload_n hC (pc := 30) 1 dX14_element_30 rfl rfl ?_
    refine z_iload_n hC (pc := 31) 2 dX14_element_31 rfl rfl ?_
    refine z_aload_n hC (pc := 32) 1 dX14_element_32 rfl rfl ?_
    refine y_get hC (pc := 33) zf14 rOb_0 35 (v := .ref (κ 1035)) dX14_element_33 zw2502 (rv_c rfl) (kk := ?_)
    refine z_iload_n hC (pc := 36) 0 dX14_element_36 rfl rfl ?_
    obtain ⟨b12, h⟩ := h
    refine y_iald hC (pc := 37) (rAr_m rfl) dX14_element_37 b12 (v := (rA σ 1035 (rF σ 0 42))) rfl (kk := ?_)
    have h := h (hwf.a _ _)
    refine z_iconst hC (pc := 38) (v := Int32.ofInt 0) dX14_element_38 (by decide) ?_
    refine z_aload_n hC (pc := 39) 1 dX14_element_39 rfl rfl ?_
    refine y_get hC (pc := 40) zf14 rOb_0 36 (v := .ref (κ 1036)) dX14_element_40 zw2503 (rv_c rfl) (kk := ?_)
    refine z_iload_n hC (pc := 43) 0 dX14_element_43 rfl rfl ?_
    obtain ⟨b13, h⟩ := h
    refine y_iald hC (pc := 44) (rAr_m rfl) dX14_element_44 b13 (v := (rA σ 1036 (rF σ 0 42))) rfl (kk := ?_)
    have h := h (hwf.a _ _)
    obtain ⟨p14, h⟩ := h
    refine y_callVi hC (pc := 45) (As := [iv x1, iv (rA σ 1035 (rF σ 0 42)), iv 0, iv (rA σ 1036 (rF σ 0 42))]) (kX14_node_t l G κ (sF σ 0 42 ((rF σ 0 42) + 1)) x1 (rA σ 1035 (rF σ 0 42)) 0 (rA σ 1036 (rF σ 0 42)) gg W11 hx1 (hwf.a _ _) (r_lit rfl) (hwf.a _ _) p14) dmX14_node zf14 rOb_0 dX14_element_45 zw3170 rfl rfl (Nat.le_of_ble_eq_true rfl) (Nat.le_of_ble_eq_true rfl) (by omega) (by omega) (Nat.le_of_ble_eq_true rfl) (kk := fun v45 s45 hv45 Ws45 qs45 => ?_)
    have h := h v45 s45 hv45 Ws45 (WNp.keep qs45.1 rfl rfl rfl rfl rfl) (qs45.1.R rfl) (qs45.1.F rfl) (qs45.1.F rfl) (qs45.1.F rfl) (fun i => qs45.1.A (f := 34) (by decide) rfl) (fun i => qs45.1.A (f := 35) (by decide) rfl) (fun i => qs45.1.A (f := 36) (by decide) rfl) (qs45.1.FG g0 rfl) (qs45.1.FG g0 rfl) qs45.2
    exact y_reti hR dX14_element_48 rfl hv45 Ws45 (Nat.le_of_ble_eq_true rfl) (Nat.le_of_ble_eq_true rfl) ⟨(rKeep.tr (rKeep.tr rKeep.rf (rKeep.sF0 (f := 42)) rfl rfl rfl rfl rfl) qs45.1 rfl rfl rfl rfl rfl), h⟩
  · have h := hF c
    refine z_iload_n hC (pc := 20) 2 dX14_element_20 rfl rfl ?_
    refine z_iconst hC (pc := 21) (v := Int32.ofInt 2) dX14_element_21 (by decide) ?_
    obtain ⟨hT, hF⟩ := h
    refine y_icmp_eq hC (pc := 22) 30 hx1 (r_lit rfl) dX14_element_22 (by decide) (fun c => ?_) (fun c => ?_)
    · have h := hT c
      refine z_aload_n hC (pc := 30) 1 dX14_element_30 rfl rfl ?_
      refine z_iload_n hC (pc := 31) 2 dX14_element_31 rfl rfl ?_
      refine z_aload_n hC (pc := 32) 1 dX14_element_32 rfl rfl ?_
      refine y_get hC (pc := 33) zf14 rOb_0 35 (v := .ref (κ 1035)) dX14_element_33 zw2502 (rv_c rfl) (kk := ?_)
      refine z_iload_n hC (pc := 36) 0 dX14_element_36 rfl rfl ?_
      obtain ⟨b15, h⟩ := h
      refine y_iald hC (pc := 37) (rAr_m rfl) dX14_element_37 b15 (v := (rA σ 1035 (rF σ 0 42))) rfl (kk := ?_)
      have h := h (hwf.a _ _)
      refine z_iconst hC (pc := 38) (v := Int32.ofInt 0) dX14_element_38 (by decide) ?_
      refine z_aload_n hC (pc := 39) 1 dX14_element_39 rfl rfl ?_
      refine y_get hC (pc := 40) zf14 rOb_0 36 (v := .ref (κ 1036)) dX14_element_40 zw2503 (rv_c rfl) (kk := ?_)
      refine z_iload_n hC (pc := 43) 0 dX14_element_43 rfl rfl ?_
      obtain ⟨b16, h⟩ := h
      refine y_iald hC (pc := 44) (rAr_m rfl) dX14_element_44 b16 (v := (rA σ 1036 (rF σ 0 42))) rfl (kk := ?_)
      have h := h (hwf.a _ _)
      obtain ⟨p17, h⟩ := h
      refine y_callVi hC (pc := 45) (As := [iv x1, iv (rA σ 1035 (rF σ 0 42)), iv 0, iv (rA σ 1036 (rF σ 0 42))]) (kX14_node_t l G κ (sF σ 0 42 ((rF σ 0 42) + 1)) x1 (rA σ 1035 (rF σ 0 42)) 0 (rA σ 1036 (rF σ 0 42)) gg W11 hx1 (hwf.a _ _) (r_lit rfl) (hwf.a _ _) p17) dmX14_node zf14 rOb_0 dX14_element_45 zw3170 rfl rfl (Nat.le_of_ble_eq_true rfl) (Nat.le_of_ble_eq_true rfl) (by omega) (by omega) (Nat.le_of_ble_eq_true rfl) (kk := fun v45 s45 hv45 Ws45 qs45 => ?_)
      have h := h v45 s45 hv45 Ws45 (WNp.keep qs45.1 rfl rfl rfl rfl rfl) (qs45.1.R rfl) (qs45.1.F rfl) (qs45.1.F rfl) (qs45.1.F rfl) (fun i => qs45.1.A (f := 34) (by decide) rfl) (fun i => qs45.1.A (f := 35) (by decide) rfl) (fun i => qs45.1.A (f := 36) (by decide) rfl) (qs45.1.FG g0 rfl) (qs45.1.FG g0 rfl) qs45.2
      exact y_reti hR dX14_element_48 rfl hv45 Ws45 (Nat.le_of_ble_eq_true rfl) (Nat.le_of_ble_eq_true rfl) ⟨(rKeep.tr (rKeep.tr rKeep.rf (rKeep.sF0 (f := 42)) rfl rfl rfl rfl rfl) qs45.1 rfl rfl rfl rfl rfl), h⟩
    · have h := hF c
      refine z_iload_n hC (pc := 25) 2 dX14_element_25 rfl rfl ?_
      refine z_iconst hC (pc := 26) (v := Int32.ofInt 3) dX14_element_26 (by decide) ?_
      obtain ⟨hT, hF⟩ := h
      refine y_icmp_ne hC (pc := 27) 49 hx1 (r_lit rfl) dX14_element_27 (by decide) (fun c => ?_) (fun c => ?_)
      · have h := hT c
        refine z_iload_n hC (pc := 49) 2 dX14_element_49 rfl rfl ?_
        refine z_iconst hC (pc := 50) (v := Int32.ofInt 4) dX14_element_50 (by decide) ?_
        obtain ⟨hT, hF⟩ := h
        refine y_icmp_eq hC (pc := 51) 66 hx1 (r_lit rfl) dX14_element_51 (by decide) (fun c => ?_) (fun c => ?_)
        · have h := hT c
          refine z_aload_n hC (pc := 66) 1 dX14_element_66 rfl rfl ?_
          refine y_get hC (pc := 67) zf14 rOb_0 35 (v := .ref (κ 1035)) dX14_element_67 zw2502 (rv_c rfl) (kk := ?_)
          refine z_iload_n hC (pc := 70) 0 dX14_element_70 rfl rfl ?_
          obtain ⟨b18, h⟩ := h
          refine y_iald hC (pc := 71) (rAr_m rfl) dX14_element_71 b18 (v := (rA σ 1035 (rF σ 0 42))) rfl (kk := ?_)
          have h := h (hwf.a _ _)
          exact y_reti hR dX14_element_72 rfl (hwf.a _ _) W11 (Nat.le_of_ble_eq_true rfl) (Nat.le_of_ble_eq_true rfl) ⟨(rKeep.tr rKeep.rf (rKeep.sF0 (f := 42)) rfl rfl rfl rfl rfl), h⟩
        · have h := hF c
          refine z_iload_n hC (pc := 54) 2 dX14_element_54 rfl rfl ?_
          refine z_bipush hC (pc := 55) (v := Int32.ofInt 6) dX14_element_55 (by decide) ?_
          obtain ⟨hT, hF⟩ := h
          refine y_icmp_eq hC (pc := 57) 66 hx1 (r_lit rfl) dX14_element_57 (by decide) (fun c => ?_) (fun c => ?_)
          · have h := hT c
            refine z_aload_n hC (pc := 66) 1 dX14_element_66 rfl rfl ?_
            refine y_get hC (pc := 67) zf14 rOb_0 35 (v := .ref (κ 1035)) dX14_element_67 zw2502 (rv_c rfl) (kk := ?_)
            refine z_iload_n hC (pc := 70) 0 dX14_element_70 rfl rfl ?_
            obtain ⟨b19, h⟩ := h
            refine y_iald hC (pc := 71) (rAr_m rfl) dX14_element_71 b19 (v := (rA σ 1035 (rF σ 0 42))) rfl (kk := ?_)
            have h := h (hwf.a _ _)
            exact y_reti hR dX14_element_72 rfl (hwf.a _ _) W11 (Nat.le_of_ble_eq_true rfl) (Nat.le_of_ble_eq_true rfl) ⟨(rKeep.tr rKeep.rf (rKeep.sF0 (f := 42)) rfl rfl rfl rfl rfl), h⟩
          · have h := hF c
            refine z_iload_n hC (pc := 60) 2 dX14_element_60 rfl rfl ?_
            refine z_bipush hC (pc := 61) (v := Int32.ofInt 7) dX14_element_61 (by decide) ?_
            obtain ⟨hT, hF⟩ := h
            refine y_icmp_ne hC (pc := 63) 73 hx1 (r_lit rfl) dX14_element_63 (by decide) (fun c => ?_) (fun c => ?_)
            · have h := hT c
              refine z_iload_n hC (pc := 73) 2 dX14_element_73 rfl rfl ?_
              refine z_bipush hC (pc := 74) (v := Int32.ofInt 25) dX14_element_74 (by decide) ?_
              obtain ⟨hT, hF⟩ := h
              refine y_icmp_ne hC (pc := 76) 111 hx1 (r_lit rfl) dX14_element_76 (by decide) (fun c => ?_) (fun c => ?_)
              · have h := hT c
                refine z_aload_n hC (pc := 111) 1 dX14_element_111 rfl rfl ?_
                refine z_iconst hC (pc := 112) (v := Int32.ofInt 5) dX14_element_112 (by decide) ?_
                refine z_iconst hC (pc := 113) (v := Int32.ofInt 0) dX14_element_113 (by decide) ?_
                refine z_iconst hC (pc := 114) (v := Int32.ofInt 0) dX14_element_114 (by decide) ?_
                refine z_aload_n hC (pc := 115) 1 dX14_element_115 rfl rfl ?_
                refine y_get hC (pc := 116) zf14 rOb_0 36 (v := .ref (κ 1036)) dX14_element_116 zw2503 (rv_c rfl) (kk := ?_)
                refine z_iload_n hC (pc := 119) 0 dX14_element_119 rfl rfl ?_
                obtain ⟨b20, h⟩ := h
                refine y_iald hC (pc := 120) (rAr_m rfl) dX14_element_120 b20 (v := (rA σ 1036 (rF σ 0 42))) rfl (kk := ?_)
                have h := h (hwf.a _ _)
                obtain ⟨p21, h⟩ := h
                refine y_callVi hC (pc := 121) (As := [iv 5, iv 0, iv 0, iv (rA σ 1036 (rF σ 0 42))]) (kX14_node_t l G κ (sF σ 0 42 ((rF σ 0 42) + 1)) 5 0 0 (rA σ 1036 (rF σ 0 42)) gg W11 (r_lit rfl) (r_lit rfl) (r_lit rfl) (hwf.a _ _) p21) dmX14_node zf14 rOb_0 dX14_element_121 zw3170 rfl rfl (Nat.le_of_ble_eq_true rfl) (Nat.le_of_ble_eq_true rfl) (by omega) (by omega) (Nat.le_of_ble_eq_true rfl) (kk := fun v121 s121 hv121 Ws121 qs121 => ?_)
                have h := h v121 s121 hv121 Ws121 (WNp.keep qs121.1 rfl rfl rfl rfl rfl) (qs121.1.R rfl) (qs121.1.F rfl) (qs121.1.F rfl) (qs121.1.F rfl) (fun i => qs121.1.A (f := 34) (by decide) rfl) (fun i => qs121.1.A (f := 35) (by decide) rfl) (fun i => qs121.1.A (f := 36) (by decide) rfl) (qs121.1.FG g0 rfl) (qs121.1.FG g0 rfl) qs121.2
                refine z_istore_n hC (pc := 124) (lv' := [(3, iv v121), (2, iv (rF σ 0 42)), (0, .ref (κ 0)), (1, iv x1)]) dX14_element_124 rfl (by decide) rfl ?_
                refine z_aload_n hC (pc := 125) 2 dX14_element_125 rfl rfl ?_
                refine z_bipush hC (pc := 126) (v := Int32.ofInt 8) dX14_element_126 (by decide) ?_
                refine z_aload_n hC (pc := 128) 2 dX14_element_128 rfl rfl ?_
                refine y_get hC (pc := 129) zf14 rOb_0 35 (v := .ref (κ 1035)) dX14_element_129 zw2502 (rv_c rfl) (kk := ?_)
                refine z_iload_n hC (pc := 132) 1 dX14_element_132 rfl rfl ?_
                obtain ⟨b22, h⟩ := h
                refine y_iald hC (pc := 133) (rAr_m rfl) dX14_element_133 b22 (v := (rA s121 1035 (rF σ 0 42))) rfl (kk := ?_)
                have h := h (Ws121.a _ _)
                refine z_iconst hC (pc := 134) (v := Int32.ofInt 0) dX14_element_134 (by decide) ?_
                refine z_aload_n hC (pc := 135) 2 dX14_element_135 rfl rfl ?_
                refine y_get hC (pc := 136) zf14 rOb_0 36 (v := .ref (κ 1036)) dX14_element_136 zw2503 (rv_c rfl) (kk := ?_)
                refine z_iload_n hC (pc := 139) 1 dX14_element_139 rfl rfl ?_
                obtain ⟨b23, h⟩ := h
                refine y_iald hC (pc := 140) (rAr_m rfl) dX14_element_140 b23 (v := (rA s121 1036 (rF σ 0 42))) rfl (kk := ?_)
                have h := h (Ws121.a _ _)
                obtain ⟨p24, h⟩ := h
                refine y_callVi hC (pc := 141) (As := [iv 8, iv (rA s121 1035 (rF σ 0 42)), iv 0, iv (rA s121 1036 (rF σ 0 42))]) (kX14_node_t l G κ s121 8 (rA s121 1035 (rF σ 0 42)) 0 (rA s121 1036 (rF σ 0 42)) gg Ws121 (r_lit rfl) (Ws121.a _ _) (r_lit rfl) (Ws121.a _ _) p24) dmX14_node zf14 rOb_0 dX14_element_141 zw3170 rfl rfl (Nat.le_of_ble_eq_true rfl) (Nat.le_of_ble_eq_true rfl) (by omega) (by omega) (Nat.le_of_ble_eq_true rfl) (kk := fun v141 s141 hv141 Ws141 qs141 => ?_)
                have h := h v141 s141 hv141 Ws141 (WNp.keep qs141.1 rfl rfl rfl rfl rfl) (qs141.1.R rfl) (qs141.1.F rfl) (qs141.1.F rfl) (qs141.1.F rfl) (fun i => qs141.1.A (f := 34) (by decide) rfl) (fun i => qs141.1.A (f := 35) (by decide) rfl) (fun i => qs141.1.A (f := 36) (by decide) rfl) (qs141.1.FG g0 rfl) (qs141.1.FG g0 rfl) qs141.2
                refine z_istore hC (pc := 144) (lv' := [(4, iv v141), (3, iv v121), (2, iv (rF σ 0 42)), (0, .ref (κ 0)), (1, iv x1)]) dX14_element_144 (by decide) rfl ?_
                refine z_aload_n hC (pc := 146) 3 dX14_element_146 rfl rfl ?_
                refine y_get hC (pc := 147) zf14 rOb_0 7 (v := .ref (κ (rR σ 7))) dX14_element_147 zw2475 (rv_g rfl ((qs141.1.R rfl).trans ((qs121.1.R rfl).trans rfl)) g0) (kk := ?_)
                refine y_getN hC (pc := 150) zf13 (rOb_k g0) 1 (v := .ref (κ (1000 * ((rR σ 7) + 1) + 1))) dX14_element_150 zw2312 (rv_c rfl) (kk := ?_)
                refine z_iload_n hC (pc := 153) 1 dX14_element_153 rfl rfl ?_
                refine z_iload hC (pc := 154) 0 dX14_element_154 rfl ?_
                obtain ⟨b25, h⟩ := h
                refine y_iast hC (pc := 156) (rAr_k g0 rfl rfl) dX14_element_156 b25 (v := v141) (kk := ?_)
                have W26 := Ws141.sA (p := (1000 * ((rR σ 7) + 1) + 1)) (i := v121) (x := v141) hv141
                refine z_aload_n hC (pc := 157) 3 dX14_element_157 rfl rfl ?_
                refine y_get hC (pc := 158) zf14 rOb_0 7 (v := .ref (κ (rR σ 7))) dX14_element_158 zw2475 (rv_g rfl ((qs141.1.R rfl).trans ((qs121.1.R rfl).trans rfl)) g0) (kk := ?_)
                refine y_getN hC (pc := 161) zf13 (rOb_k g0) 2 (v := .ref (κ (1000 * ((rR σ 7) + 1) + 2))) dX14_element_161 zw2314 (rv_c rfl) (kk := ?_)
                refine z_iload hC (pc := 164) 0 dX14_element_164 rfl ?_
                refine z_aload_n hC (pc := 166) 3 dX14_element_166 rfl rfl ?_
                obtain ⟨B27, h⟩ := h
                obtain ⟨p28, h⟩ := h
                obtain ⟨p29, h⟩ := h
                refine y_callVi hC (pc := 167) (As := []) (qX14_build ih (sT s141 (rR σ 7) 1 v121 v141) gg B27 W26  p28 p29) dmX14_build zf14 rOb_0 dX14_element_167 zw3303 rfl rfl (Nat.le_of_ble_eq_true rfl) (Nat.le_of_ble_eq_true rfl) (by omega) (by omega) (Nat.le_of_ble_eq_true rfl) (kk := fun v167 s167 hv167 Ws167 qs167 => ?_)
                have h := h v167 s167 hv167 Ws167 (WNp.keep qs167.1 rfl rfl rfl rfl rfl) (qs167.1.R rfl) (qs167.1.F rfl) (qs167.1.F rfl) (fun i => qs167.1.A (f := 34) (by decide) rfl) (fun i => qs167.1.A (f := 35) (by decide) rfl) (fun i => qs167.1.A (f := 36) (by decide) rfl) (qs167.1.FG g0 rfl) (qs167.1.FG g0 rfl) qs167.2
                obtain ⟨b30, h⟩ := h
                refine y_iast hC (pc := 170) (rAr_k g0 rfl rfl) dX14_element_170 b30 (v := v167) (kk := ?_)
                have W31 := Ws167.sA (p := (1000 * ((rR σ 7) + 1) + 2)) (i := v141) (x := v167) hv167
                have j171 : ∀ (d171 : Nat), ∀ (s171 : rS) (y171_3 : Int) (y171_4 : Int), rWF s171 → rng y171_3 → rng y171_4 → rKeep 0x40000000000 0x80 0 0x7f 0 σ s171 → inv_X14_element_171 σ x1 gg B s171 y171_3 y171_4 → (mu_X14_element_171 σ x1 gg B s171 y171_3 y171_4) ≤ d171 → zS X G 6 (rW G κ s171) [(0, .ref (κ 0)), (3, iv y171_3), (4, iv y171_4)] 0 0 171 [] := by
                  intro d171
                  induction d171 with
                  | zero =>
                    intro s171 y171_3 y171_4 Ws171 hy171_3 hy171_4 kJ hI hmu
                    exact absurd hmu (by have := h_171m  s171 y171_3 y171_4 Ws171 hy171_3 hy171_4 (WNp.keep kJ rfl rfl rfl rfl rfl) (kJ.R rfl) (kJ.F rfl) (kJ.F rfl) (fun i => kJ.A (f := 34) (by decide) rfl) (fun i => kJ.A (f := 35) (by decide) rfl) (fun i => kJ.A (f := 36) (by decide) rfl) (kJ.FG g0 rfl) (kJ.FG g0 rfl) hI; omega)
                  | succ d171 ih171 =>
                    intro s171 y171_3 y171_4 Ws171 hy171_3 hy171_4 kJ hI hmu171
                    have h := h_171  s171 y171_3 y171_4 Ws171 hy171_3 hy171_4 (WNp.keep kJ rfl rfl rfl rfl rfl) (kJ.R rfl) (kJ.F rfl) (kJ.F rfl) (fun i => kJ.A (f := 34) (by decide) rfl) (fun i => kJ.A (f := 35) (by decide) rfl) (fun i => kJ.A (f := 36) (by decide) rfl) (kJ.FG g0 rfl) (kJ.FG g0 rfl) hI
                    refine z_aload_n hC (pc := 171) 0 dX14_element_171 rfl rfl ?_
                    refine y_get hC (pc := 172) zf14 rOb_0 34 (v := .ref (κ 1034)) dX14_element_172 zw2501 (rv_c rfl) (kk := ?_)
                    refine z_aload_n hC (pc := 175) 0 dX14_element_175 rfl rfl ?_
                    refine y_get hC (pc := 176) zf14 rOb_0 42 (v := iv (rF s171 0 42)) dX14_element_176 zw2509 (rv_i (Or.inl rfl) rfl) (kk := ?_)
                    have h := h (Ws171.f _ _)
                    obtain ⟨b32, h⟩ := h
                    refine y_iald hC (pc := 179) (rAr_m rfl) dX14_element_179 b32 (v := (rA s171 1034 (rF s171 0 42))) rfl (kk := ?_)
                    have h := h (Ws171.a _ _)
                    refine z_bipush hC (pc := 180) (v := Int32.ofInt 24) dX14_element_180 (by decide) ?_
                    obtain ⟨hT, hF⟩ := h
                    refine y_icmp_eq hC (pc := 182) 273 (Ws171.a _ _) (r_lit rfl) dX14_element_182 (by decide) (fun c => ?_) (fun c => ?_)
                    · have h := hT c
                      refine z_aload_n hC (pc := 273) 0 dX14_element_273 rfl rfl ?_
                      refine z_dup hC (pc := 274) dX14_element_274 rfl ?_
                      refine y_get hC (pc := 275) zf14 rOb_0 42 (v := iv (rF s171 0 42)) dX14_element_275 zw2509 (rv_i (Or.inl rfl) rfl) (kk := ?_)
                      refine z_iconst hC (pc := 278) (v := Int32.ofInt 1) dX14_element_278 (by decide) ?_
                      refine y_iadd hC (pc := 279) (v := ((rF s171 0 42) + 1)) dX14_element_279 rfl ?_
                      obtain ⟨r33, h⟩ := h
                      refine y_putI hC (pc := 280) zf14 rOb_0 42 (x := ((rF s171 0 42) + 1)) dX14_element_280 zw2509 (Or.inl rfl) rfl rfl (kk := ?_)
                      have W34 := Ws171.sF (q := 0) (f := 42) (x := ((rF s171 0 42) + 1)) r33
                      refine z_iload_n hC (pc := 283) 1 dX14_element_283 rfl rfl ?_
                      exact y_reti hR dX14_element_284 rfl hy171_3 W34 (Nat.le_of_ble_eq_true rfl) (Nat.le_of_ble_eq_true rfl) ⟨(rKeep.tr (rKeep.tr rKeep.rf kJ rfl rfl rfl rfl rfl) (rKeep.sF0 (f := 42)) rfl rfl rfl rfl rfl), h⟩
                    · have h := hF c
                      refine z_aload_n hC (pc := 185) 0 dX14_element_185 rfl rfl ?_
                      refine z_bipush hC (pc := 186) (v := Int32.ofInt 8) dX14_element_186 (by decide) ?_
                      refine z_aload_n hC (pc := 188) 0 dX14_element_188 rfl rfl ?_
                      refine y_get hC (pc := 189) zf14 rOb_0 34 (v := .ref (κ 1034)) dX14_element_189 zw2501 (rv_c rfl) (kk := ?_)
                      refine z_aload_n hC (pc := 192) 0 dX14_element_192 rfl rfl ?_
                      refine y_get hC (pc := 193) zf14 rOb_0 42 (v := iv (rF s171 0 42)) dX14_element_193 zw2509 (rv_i (Or.inl rfl) rfl) (kk := ?_)
                      obtain ⟨b35, h⟩ := h
                      refine y_iald hC (pc := 196) (rAr_m rfl) dX14_element_196 b35 (v := (rA s171 1034 (rF s171 0 42))) rfl (kk := ?_)
                      refine z_bipush hC (pc := 197) (v := Int32.ofInt 23) dX14_element_197 (by decide) ?_
                      obtain ⟨hT, hF⟩ := h
                      refine y_icmp_ne hC (pc := 199) 206 (Ws171.a _ _) (r_lit rfl) dX14_element_199 (by decide) (fun c => ?_) (fun c => ?_)
                      · have h := hT c
                        refine z_aload_n hC (pc := 206) 0 dX14_element_206 rfl rfl ?_
                        refine y_get hC (pc := 207) zf14 rOb_0 35 (v := .ref (κ 1035)) dX14_element_207 zw2502 (rv_c rfl) (kk := ?_)
                        refine z_aload_n hC (pc := 210) 0 dX14_element_210 rfl rfl ?_
                        refine y_get hC (pc := 211) zf14 rOb_0 42 (v := iv (rF s171 0 42)) dX14_element_211 zw2509 (rv_i (Or.inl rfl) rfl) (kk := ?_)
                        obtain ⟨b36, h⟩ := h
                        refine y_iald hC (pc := 214) (rAr_m rfl) dX14_element_214 b36 (v := (rA s171 1035 (rF s171 0 42))) rfl (kk := ?_)
                        have h := h (Ws171.a _ _)
                        refine z_iconst hC (pc := 215) (v := Int32.ofInt 0) dX14_element_215 (by decide) ?_
                        refine z_aload_n hC (pc := 216) 0 dX14_element_216 rfl rfl ?_
                        refine y_get hC (pc := 217) zf14 rOb_0 36 (v := .ref (κ 1036)) dX14_element_217 zw2503 (rv_c rfl) (kk := ?_)
                        refine z_aload_n hC (pc := 220) 0 dX14_element_220 rfl rfl ?_
                        refine y_get hC (pc := 221) zf14 rOb_0 42 (v := iv (rF s171 0 42)) dX14_element_221 zw2509 (rv_i (Or.inl rfl) rfl) (kk := ?_)
                        obtain ⟨b37, h⟩ := h
                        refine y_iald hC (pc := 224) (rAr_m rfl) dX14_element_224 b37 (v := (rA s171 1036 (rF s171 0 42))) rfl (kk := ?_)
                        have h := h (Ws171.a _ _)
                        obtain ⟨p38, h⟩ := h
                        refine y_callVi hC (pc := 225) (As := [iv 8, iv (rA s171 1035 (rF s171 0 42)), iv 0, iv (rA s171 1036 (rF s171 0 42))]) (kX14_node_t l G κ s171 8 (rA s171 1035 (rF s171 0 42)) 0 (rA s171 1036 (rF s171 0 42)) gg Ws171 (r_lit rfl) (Ws171.a _ _) (r_lit rfl) (Ws171.a _ _) p38) dmX14_node zf14 rOb_0 dX14_element_225 zw3170 rfl rfl (Nat.le_of_ble_eq_true rfl) (Nat.le_of_ble_eq_true rfl) (by omega) (by omega) (Nat.le_of_ble_eq_true rfl) (kk := fun v225 s225 hv225 Ws225 qs225 => ?_)
                        have h := h v225 s225 hv225 Ws225 (WNp.keep qs225.1 rfl rfl rfl rfl rfl) (qs225.1.R rfl) (qs225.1.F rfl) (qs225.1.F rfl) (qs225.1.F rfl) (fun i => qs225.1.A (f := 34) (by decide) rfl) (fun i => qs225.1.A (f := 35) (by decide) rfl) (fun i => qs225.1.A (f := 36) (by decide) rfl) (qs225.1.FG g0 rfl) (qs225.1.FG g0 rfl) qs225.2
                        refine z_istore hC (pc := 228) (lv' := [(5, iv v225), (0, .ref (κ 0)), (3, iv y171_3), (4, iv y171_4)]) dX14_element_228 (by decide) rfl ?_
                        refine z_aload_n hC (pc := 230) 1 dX14_element_230 rfl rfl ?_
                        refine z_dup hC (pc := 231) dX14_element_231 rfl ?_
                        refine y_get hC (pc := 232) zf14 rOb_0 42 (v := iv (rF s171 0 42)) dX14_element_232 zw2509 (rv_i (Or.inl rfl) ((qs225.1.F rfl).trans rfl)) (kk := ?_)
                        refine z_iconst hC (pc := 235) (v := Int32.ofInt 1) dX14_element_235 (by decide) ?_
                        refine y_iadd hC (pc := 236) (v := ((rF s171 0 42) + 1)) dX14_element_236 rfl ?_
                        obtain ⟨r39, h⟩ := h
                        refine y_putI hC (pc := 237) zf14 rOb_0 42 (x := ((rF s171 0 42) + 1)) dX14_element_237 zw2509 (Or.inl rfl) rfl rfl (kk := ?_)
                        have W40 := Ws225.sF (q := 0) (f := 42) (x := ((rF s171 0 42) + 1)) r39
                        refine z_aload_n hC (pc := 240) 1 dX14_element_240 rfl rfl ?_
                        refine y_get hC (pc := 241) zf14 rOb_0 7 (v := .ref (κ (rR σ 7))) dX14_element_241 zw2475 (rv_g rfl ((qs225.1.R rfl).trans (kJ.R rfl)) g0) (kk := ?_)
                        refine y_getN hC (pc := 244) zf13 (rOb_k g0) 5 (v := .ref (κ (1000 * ((rR σ 7) + 1) + 5))) dX14_element_244 zw2320 (rv_c rfl) (kk := ?_)
                        refine z_iload hC (pc := 247) 3 dX14_element_247 rfl ?_
                        refine z_iload hC (pc := 249) 0 dX14_element_249 rfl ?_
                        obtain ⟨b41, h⟩ := h
                        refine y_iast hC (pc := 251) (rAr_k g0 rfl rfl) dX14_element_251 b41 (v := v225) (kk := ?_)
                        have W42 := W40.sA (p := (1000 * ((rR σ 7) + 1) + 5)) (i := y171_4) (x := v225) hv225
                        refine z_iload hC (pc := 252) 0 dX14_element_252 rfl ?_
                        refine z_istore hC (pc := 254) (lv' := [(4, iv v225), (5, iv v225), (0, .ref (κ 0)), (3, iv y171_3)]) dX14_element_254 (by decide) rfl ?_
                        refine z_aload_n hC (pc := 256) 2 dX14_element_256 rfl rfl ?_
                        refine y_get hC (pc := 257) zf14 rOb_0 7 (v := .ref (κ (rR σ 7))) dX14_element_257 zw2475 (rv_g rfl ((qs225.1.R rfl).trans (kJ.R rfl)) g0) (kk := ?_)
                        refine y_getN hC (pc := 260) zf13 (rOb_k g0) 2 (v := .ref (κ (1000 * ((rR σ 7) + 1) + 2))) dX14_element_260 zw2314 (rv_c rfl) (kk := ?_)
                        refine z_iload hC (pc := 263) 1 dX14_element_263 rfl ?_
                        refine z_aload_n hC (pc := 265) 2 dX14_element_265 rfl rfl ?_
                        obtain ⟨B43, h⟩ := h
                        obtain ⟨p44, h⟩ := h
                        obtain ⟨p45, h⟩ := h
                        refine y_callVi hC (pc := 266) (As := []) (qX14_build ih (sT (sF s225 0 42 ((rF s171 0 42) + 1)) (rR σ 7) 5 y171_4 v225) gg B43 W42  p44 p45) dmX14_build zf14 rOb_0 dX14_element_266 zw3303 rfl rfl (Nat.le_of_ble_eq_true rfl) (Nat.le_of_ble_eq_true rfl) (by omega) (by omega) (Nat.le_of_ble_eq_true rfl) (kk := fun v266 s266 hv266 Ws266 qs266 => ?_)
                        have h := h v266 s266 hv266 Ws266 (WNp.keep qs266.1 rfl rfl rfl rfl rfl) (qs266.1.R rfl) (qs266.1.F rfl) (qs266.1.F rfl) (fun i => qs266.1.A (f := 34) (by decide) rfl) (fun i => qs266.1.A (f := 35) (by decide) rfl) (fun i => qs266.1.A (f := 36) (by decide) rfl) (qs266.1.FG g0 rfl) (qs266.1.FG g0 rfl) qs266.2
                        obtain ⟨b46, h⟩ := h
                        refine y_iast hC (pc := 269) (rAr_k g0 rfl rfl) dX14_element_269 b46 (v := v266) (kk := ?_)
                        have W47 := Ws266.sA (p := (1000 * ((rR σ 7) + 1) + 2)) (i := v225) (x := v266) hv266
                        refine z_goto hC (pc := 270) 171 dX14_element_270 (by decide) ?_
                        refine z_lvs [2, 3, 0] rfl ?_
                        obtain ⟨hI, hm⟩ := h
                        exact ih171 (sT s266 (rR σ 7) 2 v225 v266) y171_3 v225 W47 hy171_3 hv225 (rKeep.tr (rKeep.tr (rKeep.tr (rKeep.tr (rKeep.tr (rKeep.tr rKeep.rf kJ rfl rfl rfl rfl rfl) qs225.1 rfl rfl rfl rfl rfl) (rKeep.sF0 (f := 42)) rfl rfl rfl rfl rfl) (rKeep.sAk (f := 5) g0 (by decide)) rfl rfl rfl rfl rfl) qs266.1 rfl rfl rfl rfl rfl) (rKeep.sAk (f := 2) g0 (by decide)) rfl rfl rfl rfl rfl) hI (by omega)
                      · have h := hF c
                        refine z_iconst hC (pc := 202) (v := Int32.ofInt 0) dX14_element_202 (by decide) ?_
                        refine z_goto hC (pc := 203) 215 dX14_element_203 (by decide) ?_
                        refine z_iconst hC (pc := 215) (v := Int32.ofInt 0) dX14_element_215 (by decide) ?_
                        refine z_aload_n hC (pc := 216) 0 dX14_element_216 rfl rfl ?_
                        refine y_get hC (pc := 217) zf14 rOb_0 36 (v := .ref (κ 1036)) dX14_element_217 zw2503 (rv_c rfl) (kk := ?_)
                        refine z_aload_n hC (pc := 220) 0 dX14_element_220 rfl rfl ?_
                        refine y_get hC (pc := 221) zf14 rOb_0 42 (v := iv (rF s171 0 42)) dX14_element_221 zw2509 (rv_i (Or.inl rfl) rfl) (kk := ?_)
                        obtain ⟨b48, h⟩ := h
                        refine y_iald hC (pc := 224) (rAr_m rfl) dX14_element_224 b48 (v := (rA s171 1036 (rF s171 0 42))) rfl (kk := ?_)
                        have h := h (Ws171.a _ _)
                        obtain ⟨p49, h⟩ := h
                        refine y_callVi hC (pc := 225) (As := [iv 8, iv 0, iv 0, iv (rA s171 1036 (rF s171 0 42))]) (kX14_node_t l G κ s171 8 0 0 (rA s171 1036 (rF s171 0 42)) gg Ws171 (r_lit rfl) (r_lit rfl) (r_lit rfl) (Ws171.a _ _) p49) dmX14_node zf14 rOb_0 dX14_element_225 zw3170 rfl rfl (Nat.le_of_ble_eq_true rfl) (Nat.le_of_ble_eq_true rfl) (by omega) (by omega) (Nat.le_of_ble_eq_true rfl) (kk := fun v225 s225 hv225 Ws225 qs225 => ?_)
                        have h := h v225 s225 hv225 Ws225 (WNp.keep qs225.1 rfl rfl rfl rfl rfl) (qs225.1.R rfl) (qs225.1.F rfl) (qs225.1.F rfl) (qs225.1.F rfl) (fun i => qs225.1.A (f := 34) (by decide) rfl) (fun i => qs225.1.A (f := 35) (by decide) rfl) (fun i => qs225.1.A (f := 36) (by decide) rfl) (qs225.1.FG g0 rfl) (qs225.1.FG g0 rfl) qs225.2
                        refine z_istore hC (pc := 228) (lv' := [(5, iv v225), (0, .ref (κ 0)), (3, iv y171_3), (4, iv y171_4)]) dX14_element_228 (by decide) rfl ?_
                        refine z_aload_n hC (pc := 230) 1 dX14_element_230 rfl rfl ?_
                        refine z_dup hC (pc := 231) dX14_element_231 rfl ?_
                        refine y_get hC (pc := 232) zf14 rOb_0 42 (v := iv (rF s171 0 42)) dX14_element_232 zw2509 (rv_i (Or.inl rfl) ((qs225.1.F rfl).trans rfl)) (kk := ?_)
                        refine z_iconst hC (pc := 235) (v := Int32.ofInt 1) dX14_element_235 (by decide) ?_
                        refine y_iadd hC (pc := 236) (v := ((rF s171 0 42) + 1)) dX14_element_236 rfl ?_
                        obtain ⟨r50, h⟩ := h
                        refine y_putI hC (pc := 237) zf14 rOb_0 42 (x := ((rF s171 0 42) + 1)) dX14_element_237 zw2509 (Or.inl rfl) rfl rfl (kk := ?_)
                        have W51 := Ws225.sF (q := 0) (f := 42) (x := ((rF s171 0 42) + 1)) r50
                        refine z_aload_n hC (pc := 240) 1 dX14_element_240 rfl rfl ?_
                        refine y_get hC (pc := 241) zf14 rOb_0 7 (v := .ref (κ (rR σ 7))) dX14_element_241 zw2475 (rv_g rfl ((qs225.1.R rfl).trans (kJ.R rfl)) g0) (kk := ?_)
                        refine y_getN hC (pc := 244) zf13 (rOb_k g0) 5 (v := .ref (κ (1000 * ((rR σ 7) + 1) + 5))) dX14_element_244 zw2320 (rv_c rfl) (kk := ?_)
                        refine z_iload hC (pc := 247) 3 dX14_element_247 rfl ?_
                        refine z_iload hC (pc := 249) 0 dX14_element_249 rfl ?_
                        obtain ⟨b52, h⟩ := h
                        refine y_iast hC (pc := 251) (rAr_k g0 rfl rfl) dX14_element_251 b52 (v := v225) (kk := ?_)
                        have W53 := W51.sA (p := (1000 * ((rR σ 7) + 1) + 5)) (i := y171_4) (x := v225) hv225
                        refine z_iload hC (pc := 252) 0 dX14_element_252 rfl ?_
                        refine z_istore hC (pc := 254) (lv' := [(4, iv v225), (5, iv v225), (0, .ref (κ 0)), (3, iv y171_3)]) dX14_element_254 (by decide) rfl ?_
                        refine z_aload_n hC (pc := 256) 2 dX14_element_256 rfl rfl ?_
                        refine y_get hC (pc := 257) zf14 rOb_0 7 (v := .ref (κ (rR σ 7))) dX14_element_257 zw2475 (rv_g rfl ((qs225.1.R rfl).trans (kJ.R rfl)) g0) (kk := ?_)
                        refine y_getN hC (pc := 260) zf13 (rOb_k g0) 2 (v := .ref (κ (1000 * ((rR σ 7) + 1) + 2))) dX14_element_260 zw2314 (rv_c rfl) (kk := ?_)
                        refine z_iload hC (pc := 263) 1 dX14_element_263 rfl ?_
                        refine z_aload_n hC (pc := 265) 2 dX14_element_265 rfl rfl ?_
                        obtain ⟨B54, h⟩ := h
                        obtain ⟨p55, h⟩ := h
                        obtain ⟨p56, h⟩ := h
                        refine y_callVi hC (pc := 266) (As := []) (qX14_build ih (sT (sF s225 0 42 ((rF s171 0 42) + 1)) (rR σ 7) 5 y171_4 v225) gg B54 W53  p55 p56) dmX14_build zf14 rOb_0 dX14_element_266 zw3303 rfl rfl (Nat.le_of_ble_eq_true rfl) (Nat.le_of_ble_eq_true rfl) (by omega) (by omega) (Nat.le_of_ble_eq_true rfl) (kk := fun v266 s266 hv266 Ws266 qs266 => ?_)
                        have h := h v266 s266 hv266 Ws266 (WNp.keep qs266.1 rfl rfl rfl rfl rfl) (qs266.1.R rfl) (qs266.1.F rfl) (qs266.1.F rfl) (fun i => qs266.1.A (f := 34) (by decide) rfl) (fun i => qs266.1.A (f := 35) (by decide) rfl) (fun i => qs266.1.A (f := 36) (by decide) rfl) (qs266.1.FG g0 rfl) (qs266.1.FG g0 rfl) qs266.2
                        obtain ⟨b57, h⟩ := h
                        refine y_iast hC (pc := 269) (rAr_k g0 rfl rfl) dX14_element_269 b57 (v := v266) (kk := ?_)
                        have W58 := Ws266.sA (p := (1000 * ((rR σ 7) + 1) + 2)) (i := v225) (x := v266) hv266
                        refine z_goto hC (pc := 270) 171 dX14_element_270 (by decide) ?_
                        refine z_lvs [2, 3, 0] rfl ?_
                        obtain ⟨hI, hm⟩ := h
                        exact ih171 (sT s266 (rR σ 7) 2 v225 v266) y171_3 v225 W58 hy171_3 hv225 (rKeep.tr (rKeep.tr (rKeep.tr (rKeep.tr (rKeep.tr (rKeep.tr rKeep.rf kJ rfl rfl rfl rfl rfl) qs225.1 rfl rfl rfl rfl rfl) (rKeep.sF0 (f := 42)) rfl rfl rfl rfl rfl) (rKeep.sAk (f := 5) g0 (by decide)) rfl rfl rfl rfl rfl) qs266.1 rfl rfl rfl rfl rfl) (rKeep.sAk (f := 2) g0 (by decide)) rfl rfl rfl rfl rfl) hI (by omega)
                refine z_lvs [3, 1, 0] rfl ?_
                exact j171 _ (sT s167 (rR σ 7) 2 v141 v167) v121 v141 W31 hv121 hv141 (rKeep.tr (rKeep.tr (rKeep.tr (rKeep.tr (rKeep.tr (rKeep.tr rKeep.rf (rKeep.sF0 (f := 42)) rfl rfl rfl rfl rfl) qs121.1 rfl rfl rfl rfl rfl) qs141.1 rfl rfl rfl rfl rfl) (rKeep.sAk (f := 1) g0 (by decide)) rfl rfl rfl rfl rfl) qs167.1 rfl rfl rfl rfl rfl) (rKeep.sAk (f := 2) g0 (by decide)) rfl rfl rfl rfl rfl) h (Nat.le_refl _)
              · have h := hF c
                refine z_aload_n hC (pc := 79) 1 dX14_element_79 rfl rfl ?_
                refine y_get hC (pc := 80) zf14 rOb_0 35 (v := .ref (κ 1035)) dX14_element_80 zw2502 (rv_c rfl) (kk := ?_)
                refine z_iload_n hC (pc := 83) 0 dX14_element_83 rfl rfl ?_
                obtain ⟨b59, h⟩ := h
                refine y_iald hC (pc := 84) (rAr_m rfl) dX14_element_84 b59 (v := (rA σ 1035 (rF σ 0 42))) rfl (kk := ?_)
                have h := h (hwf.a _ _)
                refine z_istore_n hC (pc := 85) (lv' := [(3, iv (rA σ 1035 (rF σ 0 42))), (2, iv (rF σ 0 42)), (0, .ref (κ 0)), (1, iv x1)]) dX14_element_85 rfl (by decide) rfl ?_
                refine z_aload_n hC (pc := 86) 2 dX14_element_86 rfl rfl ?_
                refine y_get hC (pc := 87) zf14 rOb_0 7 (v := .ref (κ (rR σ 7))) dX14_element_87 zw2475 (rv_g rfl rfl g0) (kk := ?_)
                refine y_getN hC (pc := 90) zf13 (rOb_k g0) 2 (v := .ref (κ (1000 * ((rR σ 7) + 1) + 2))) dX14_element_90 zw2314 (rv_c rfl) (kk := ?_)
                refine z_iload_n hC (pc := 93) 0 dX14_element_93 rfl rfl ?_
                refine z_aload_n hC (pc := 94) 2 dX14_element_94 rfl rfl ?_
                obtain ⟨B60, h⟩ := h
                obtain ⟨p61, h⟩ := h
                obtain ⟨p62, h⟩ := h
                refine y_callVi hC (pc := 95) (As := []) (qX14_build ih (sF σ 0 42 ((rF σ 0 42) + 1)) gg B60 W11  p61 p62) dmX14_build zf14 rOb_0 dX14_element_95 zw3303 rfl rfl (Nat.le_of_ble_eq_true rfl) (Nat.le_of_ble_eq_true rfl) (by omega) (by omega) (Nat.le_of_ble_eq_true rfl) (kk := fun v95 s95 hv95 Ws95 qs95 => ?_)
                have h := h v95 s95 hv95 Ws95 (WNp.keep qs95.1 rfl rfl rfl rfl rfl) (qs95.1.R rfl) (qs95.1.F rfl) (qs95.1.F rfl) (fun i => qs95.1.A (f := 34) (by decide) rfl) (fun i => qs95.1.A (f := 35) (by decide) rfl) (fun i => qs95.1.A (f := 36) (by decide) rfl) (qs95.1.FG g0 rfl) (qs95.1.FG g0 rfl) qs95.2
                obtain ⟨b63, h⟩ := h
                refine y_iast hC (pc := 98) (rAr_k g0 rfl rfl) dX14_element_98 b63 (v := v95) (kk := ?_)
                have W64 := Ws95.sA (p := (1000 * ((rR σ 7) + 1) + 2)) (i := (rA σ 1035 (rF σ 0 42))) (x := v95) hv95
                refine z_aload_n hC (pc := 99) 2 dX14_element_99 rfl rfl ?_
                refine z_dup hC (pc := 100) dX14_element_100 rfl ?_
                refine y_get hC (pc := 101) zf14 rOb_0 42 (v := iv (rF s95 0 42)) dX14_element_101 zw2509 (rv_i (Or.inl rfl) rfl) (kk := ?_)
                have h := h (Ws95.f _ _)
                refine z_iconst hC (pc := 104) (v := Int32.ofInt 1) dX14_element_104 (by decide) ?_
                refine y_iadd hC (pc := 105) (v := ((rF s95 0 42) + 1)) dX14_element_105 rfl ?_
                obtain ⟨r65, h⟩ := h
                refine y_putI hC (pc := 106) zf14 rOb_0 42 (x := ((rF s95 0 42) + 1)) dX14_element_106 zw2509 (Or.inl rfl) rfl rfl (kk := ?_)
                have W66 := W64.sF (q := 0) (f := 42) (x := ((rF s95 0 42) + 1)) r65
                refine z_iload_n hC (pc := 109) 0 dX14_element_109 rfl rfl ?_
                exact y_reti hR dX14_element_110 rfl (hwf.a _ _) W66 (Nat.le_of_ble_eq_true rfl) (Nat.le_of_ble_eq_true rfl) ⟨(rKeep.tr (rKeep.tr (rKeep.tr (rKeep.tr rKeep.rf (rKeep.sF0 (f := 42)) rfl rfl rfl rfl rfl) qs95.1 rfl rfl rfl rfl rfl) (rKeep.sAk (f := 2) g0 (by decide)) rfl rfl rfl rfl rfl) (rKeep.sF0 (f := 42)) rfl rfl rfl rfl rfl), h⟩
            · have h := hF c
              refine z_aload_n hC (pc := 66) 1 dX14_element_66 rfl rfl ?_
              refine y_get hC (pc := 67) zf14 rOb_0 35 (v := .ref (κ 1035)) dX14_element_67 zw2502 (rv_c rfl) (kk := ?_)
              refine z_iload_n hC (pc := 70) 0 dX14_element_70 rfl rfl ?_
              obtain ⟨b67, h⟩ := h
              refine y_iald hC (pc := 71) (rAr_m rfl) dX14_element_71 b67 (v := (rA σ 1035 (rF σ 0 42))) rfl (kk := ?_)
              have h := h (hwf.a _ _)
              exact y_reti hR dX14_element_72 rfl (hwf.a _ _) W11 (Nat.le_of_ble_eq_true rfl) (Nat.le_of_ble_eq_true rfl) ⟨(rKeep.tr rKeep.rf (rKeep.sF0 (f := 42)) rfl rfl rfl rfl rfl), h⟩
      · have h := hF c
        refine z_aload_n hC (pc := 30) 1 dX14_element_30 rfl rfl ?_
        refine z_iload_n hC (pc := 31) 2 dX14_element_31 rfl rfl ?_
        refine z_aload_n hC (pc := 32) 1 dX14_element_32 rfl rfl ?_
        refine y_get hC (pc := 33) zf14 rOb_0 35 (v := .ref (κ 1035)) dX14_element_33 zw2502 (rv_c rfl) (kk := ?_)
        refine z_iload_n hC (pc := 36) 0 dX14_element_36 rfl rfl ?_
        obtain ⟨b68, h⟩ := h
        refine y_iald hC (pc := 37) (rAr_m rfl) dX14_element_37 b68 (v := (rA σ 1035 (rF σ 0 42))) rfl (kk := ?_)
        have h := h (hwf.a _ _)
        refine z_iconst hC (pc := 38) (v := Int32.ofInt 0) dX14_element_38 (by decide) ?_
        refine z_aload_n hC (pc := 39) 1 dX14_element_39 rfl rfl ?_
        refine y_get hC (pc := 40) zf14 rOb_0 36 (v := .ref (κ 1036)) dX14_element_40 zw2503 (rv_c rfl) (kk := ?_)
        refine z_iload_n hC (pc := 43) 0 dX14_element_43 rfl rfl ?_
        obtain ⟨b69, h⟩ := h
        refine y_iald hC (pc := 44) (rAr_m rfl) dX14_element_44 b69 (v := (rA σ 1036 (rF σ 0 42))) rfl (kk := ?_)
        have h := h (hwf.a _ _)
        obtain ⟨p70, h⟩ := h
        refine y_callVi hC (pc := 45) (As := [iv x1, iv (rA σ 1035 (rF σ 0 42)), iv 0, iv (rA σ 1036 (rF σ 0 42))]) (kX14_node_t l G κ (sF σ 0 42 ((rF σ 0 42) + 1)) x1 (rA σ 1035 (rF σ 0 42)) 0 (rA σ 1036 (rF σ 0 42)) gg W11 hx1 (hwf.a _ _) (r_lit rfl) (hwf.a _ _) p70) dmX14_node zf14 rOb_0 dX14_element_45 zw3170 rfl rfl (Nat.le_of_ble_eq_true rfl) (Nat.le_of_ble_eq_true rfl) (by omega) (by omega) (Nat.le_of_ble_eq_true rfl) (kk := fun v45 s45 hv45 Ws45 qs45 => ?_)
        have h := h v45 s45 hv45 Ws45 (WNp.keep qs45.1 rfl rfl rfl rfl rfl) (qs45.1.R rfl) (qs45.1.F rfl) (qs45.1.F rfl) (qs45.1.F rfl) (fun i => qs45.1.A (f := 34) (by decide) rfl) (fun i => qs45.1.A (f := 35) (by decide) rfl) (fun i => qs45.1.A (f := 36) (by decide) rfl) (qs45.1.FG g0 rfl) (qs45.1.FG g0 rfl) qs45.2
        exact y_reti hR dX14_element_48 rfl hv45 Ws45 (Nat.le_of_ble_eq_true rfl) (Nat.le_of_ble_eq_true rfl) ⟨(rKeep.tr (rKeep.tr rKeep.rf (rKeep.sF0 (f := 42)) rfl rfl rfl rfl rfl) qs45.1 rfl rfl rfl rfl rfl), h⟩
theorem kX14_element (l : Launch) (G : zG) (κ : Nat → Nat) (n : Nat) (ih : Q_bld l G κ n) (σ : rS) (x1 : Int) (gg : Nat) (B : GBt) (hwf : rWF σ) (hx1 : rng x1) (hp : pre_X14_element σ x1 gg B) (hr : rk_X14_element σ x1 gg B ≤ n + 1) : rMi l G κ yX14_element cX14_element 6 .int (n + 1 + 20) ((n + 1) * 40 + 600) [.ref (κ 0), iv x1] σ (fun x s => rKeep 0x40000000000 0x80 0 0x7f 0 σ s ∧ post_X14_element σ x1 gg B x s) := wX14_element l G κ n ih σ x1 gg B hwf hx1 (post_X14_element σ x1 gg B) (vX14_element n σ x1 gg B hwf hx1 hp hr) (vX14_element_171 n σ x1 gg B hwf hx1 hp hr) (vX14_element_171m n σ x1 gg B hwf hx1 hp hr)
theorem all_bld (l : Launch) (G : zG) (κ : Nat → Nat) : ∀ n, Q_bld l G κ n := by
  intro n
  induction n with
  | zero => exact ⟨fun _ _ _ _ _ hr => absurd hr (by unfold rk_X14_build; omega), fun _ _ _ _ _ _ _ hr => absurd hr (by unfold rk_X14_element; omega)⟩
  | succ n ih => exact ⟨kX14_build l G κ n ih, kX14_element l G κ n ih⟩
theorem kkX14_build (l : Launch) (G : zG) (κ : Nat → Nat) (σ : rS) (gg : Nat) (B : GBt) (hwf : rWF σ)  (hp : pre_X14_build σ gg B) (hr : rk_X14_build σ gg B ≤ 60) : rMi l G κ yX14_build cX14_build 6 .int 80 3000 [.ref (κ 0)] σ (fun x s => rKeep 0x40000000000 0x80 0 0x7f 0 σ s ∧ post_X14_build σ gg B x s) := qX14_build (all_bld l G κ 60) σ gg B hwf  hp hr
theorem kkX14_element (l : Launch) (G : zG) (κ : Nat → Nat) (σ : rS) (x1 : Int) (gg : Nat) (B : GBt) (hwf : rWF σ) (hx1 : rng x1) (hp : pre_X14_element σ x1 gg B) (hr : rk_X14_element σ x1 gg B ≤ 60) : rMi l G κ yX14_element cX14_element 6 .int 80 3000 [.ref (κ 0), iv x1] σ (fun x s => rKeep 0x40000000000 0x80 0 0x7f 0 σ s ∧ post_X14_element σ x1 gg B x s) := qX14_element (all_bld l G κ 60) σ x1 gg B hwf hx1 hp hr
