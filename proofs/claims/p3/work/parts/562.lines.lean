def SPn (b : Int → Int) (a k : Int) : Prop := ∀ j, a ≤ j → j < k → b j = 1
theorem SPn.z {b : Int → Int} {a : Int} : SPn b a a := fun j h1 h2 => absurd h1 (by omega)
theorem SPn.s {b : Int → Int} {a k : Int} (h : SPn b a k) (hb : b k = 1) : SPn b a (k + 1) := fun j h1 h2 => by
  by_cases e : j = k
  · rw [e]; exact hb
  · exact h j h1 (by omega)
theorem SPn.cg {b b' : Int → Int} {a k : Int} (h : SPn b a k) (hb : ∀ i, b' i = b i) : SPn b' a k := fun j h1 h2 => by rw [hb]; exact h j h1 h2
def WL (s : rS) (k : Nat) (g : Nat → Int → Int) (n1 a b : Int) : Prop := ∀ j, a ≤ j → j < b → (rA s 1034 j = 4 ∨ rA s 1034 j = 6 ∨ rA s 1034 j = 7) → n1 ≤ rA s 1035 j ∧ 0 < rA s 1035 j ∧ rA s 1035 j < rF s k 7 ∧ 1 ≤ g 0 (rA s 1035 j) ∧ g 0 (rA s 1035 j) ≤ 7
theorem WL.cg {s t : rS} {k : Nat} {g : Nat → Int → Int} {n1 a b a' b' : Int} (h : WL s k g n1 a b) (h1 : ∀ i, rA t 1034 i = rA s 1034 i) (h2 : ∀ i, rA t 1035 i = rA s 1035 i) (h3 : rF t k 7 = rF s k 7) (ha : a ≤ a') (hb : b' ≤ b) : WL t k g n1 a' b' := fun j j1 j2 hq => by
  rw [h1] at hq
  rw [h2, h3]
  exact h j (by omega) (by omega) hq
theorem WD.wl {s : rS} {k : Nat} {g : Nat → Int → Int} {a b n1 n2 lo hi : Int} (h : WD s k g a b n1 n2 lo hi) : WL s k g n1 a b := fun j j1 j2 hq => by
  obtain ⟨a1, a2, a3, a4, a5, a6, a7⟩ := h
  obtain ⟨q1, q2, q3, q4, q5, q6⟩ := a7 j j1 j2 (by unfold nwp; omega)
  rcases q5 with w | w
  · omega
  · have w5 := (w.2.2.2.2 (by omega)).1
    rw [so_12] at w5
    exact ⟨q1, by omega, by omega, w5.1, w5.2⟩
theorem GS.c4w {s : rS} {k : Nat} {g : Nat → Int → Int} {it z : Int} (hk : rgk k) (G : GS s k g) (h : 1 ≤ g 0 it ∧ g 0 it ≤ 7) (hz : rind z) : GS (sT s k 4 it z) k g := by
  refine ⟨?_, GQ.stt hk (by decide) G.2 (Or.inl (by decide))⟩
  unfold GS0; rw [tr_u hk (by decide)]
  exact GI.c4 (K := (g 0 it).toNat) G.1 (by omega) (Or.inr (by rw [udt_eq]; exact hz)) (fun f i h => udt_ne h)
theorem GS.ln {s : rS} {k : Nat} {g : Nat → Int → Int} {a b c d e : Int} (G : GS s k g) : GS (sF (sA (sA s 1037 a b) (1000 * (k + 1) + 8) c d) k 9 e) k g := by
  refine ⟨?_, GQ.tf G.2 (Int.le_of_eq (F_sF_ne (by decide)).symm) (F_sF_ne (by decide)) (fun x n _ hz => by rw [zz_F (by decide), zz_out (Or.inr (by omega)), zz_out (Or.inl (by decide))]; exact hz) (fun j _ => by rw [ck3_sF, ck3_out (Or.inr (by omega)), ck3_out (Or.inl (by decide))]) (fun _ _ _ => rfl) (fun m _ m1 _ m2 => ⟨by rw [F_sF_ne (by decide)] at m1; exact m1, m2, rfl, by rw [tr_sF, tr_g8, tr_a37]⟩)⟩
  replace G := G.1
  unfold GS0 at *
  rw [F_sF_ne (show (7 : Nat) ≠ 9 by decide), F_sF_ne (show (12 : Nat) ≠ 9 by decide), tr_sF, tr_g8, tr_a37]
  exact G
theorem WNp.gn {s : rS} {i x : Int} (h : WNp s) (hx : x = 0 ∨ rA s 1034 i = 1 ∨ rA s 1034 i = 2) : WNp (sA s 1037 i x) := by
  unfold WNp at *
  intro j h0 h1
  have q := h j h0 h1
  simp only [rA_sA, rF_sA, Nat.reduceEqDiff, false_and, if_false, true_and] at q ⊢
  refine ⟨q.1, q.2.1, q.2.2.1, q.2.2.2.1, ?_⟩
  by_cases e : j = i
  · subst e; rw [if_pos rfl]; exact hx
  · rw [if_neg e]; exact q.2.2.2.2
theorem WNp.gs {s : rS} {i v : Int} (h : WNp s) (h1 : v = 0 ∨ v = 1) (h2 : v = 1 → rA s 1034 i = 1) : WNp (sA s 1037 i (inar .boolean v)) := by
  rcases h1 with e | e
  · subst e; exact h.gn (Or.inl inar_b0)
  · exact h.gn (Or.inr (Or.inl (h2 e)))
theorem RG.t4 {s t : rS} {k : Nat} {n i x : Int} (hk : rgk k) (h : RG (sF s k 7 n) t k 0) (hi : n ≤ i) : RG (sF s k 7 n) (sT t k 4 i x) k 0 := RG.tst hk h (by decide) (Or.inl (by rw [F_sF]; exact hi))
theorem RG.rf7 {s : rS} {k : Nat} {n : Int} (hk : rgk k) (hn : n ≤ rF s k 7) : RG (sF s k 7 n) s k 0 := by
  have e := kq_k hk
  unfold RG RGf RGp RGw
  simp only [e, F_sF, F_sF_ne (show (32 : Nat) ≠ 7 by decide), F_sF_ne (show (38 : Nat) ≠ 7 by decide), F_sF_ne (show (39 : Nat) ≠ 7 by decide), zz_F (show (38 : Nat) ≠ 7 by decide), tr_sF, rA_sF, ck3_sF]
  refine ⟨fun _ _ _ _ _ => ?_, ⟨fun _ _ => ?_, fun _ _ _ h => h, hn, Int.le_refl _, Int.le_refl _, fun _ _ => ?_⟩, Int.le_refl _, Int.le_refl _, fun _ _ => ⟨?_, ?_⟩, fun _ _ => ?_⟩ <;> first | trivial | rfl
theorem RG.t7 {σ s t : rS} {k : Nat} {n : Int} (hk : rgk k) (h : RG (sF σ k 7 n) s k 0) (h' : RG (sF s k 7 n) t k 0) : RG (sF σ k 7 n) t k 0 := by
  have e := kq_k hk
  unfold RG RGf RGp RGw at *
  simp only [e, F_sF, F_sF_ne (show (32 : Nat) ≠ 7 by decide), F_sF_ne (show (38 : Nat) ≠ 7 by decide), F_sF_ne (show (39 : Nat) ≠ 7 by decide), zz_F (show (38 : Nat) ≠ 7 by decide), tr_sF, rA_sF, ck3_sF] at h h' ⊢
  obtain ⟨a, ⟨b1, b2, b3, b4, b5, b6⟩, w1, w2, w4, w5⟩ := h
  obtain ⟨a', ⟨b1', b2', b3', b4', b5', b6'⟩, w1', w2', w4', w5'⟩ := h'
  exact ⟨fun f i hf hi hc => (a' f i hf hi hc).trans (a f i hf hi hc), ⟨fun i hi => (b1' i (by omega)).trans (b1 i hi), fun x m hx hz => b2' x m hx (b2 x m hx hz), by omega, by omega, by omega, fun i hi => (b6' i (by omega)).trans (b6 i hi)⟩, by omega, by omega, fun j hj => ⟨(w4' j (by omega)).1.trans (w4 j hj).1, (w4' j (by omega)).2.trans (w4 j hj).2⟩, fun j hj => (w5' j (by omega)).trans (w5 j hj)⟩
theorem RG.t0 {σ s t : rS} {k : Nat} {n : Int} (hk : rgk k) (h : RG σ s k 0) (h' : RG (sF s k 7 n) t k 0) (hn : rF σ k 7 ≤ n) : RG σ t k 0 := by
  have e := kq_k hk
  unfold RG RGf RGp RGw at *
  simp only [e, F_sF, F_sF_ne (show (32 : Nat) ≠ 7 by decide), F_sF_ne (show (38 : Nat) ≠ 7 by decide), F_sF_ne (show (39 : Nat) ≠ 7 by decide), zz_F (show (38 : Nat) ≠ 7 by decide), tr_sF, rA_sF, ck3_sF] at h h' ⊢
  obtain ⟨a, ⟨b1, b2, b3, b4, b5, b6⟩, w1, w2, w4, w5⟩ := h
  obtain ⟨a', ⟨b1', b2', b3', b4', b5', b6'⟩, w1', w2', w4', w5'⟩ := h'
  exact ⟨fun f i hf hi hc => (a' f i hf (by omega) hc).trans (a f i hf hi hc), ⟨fun i hi => (b1' i (by omega)).trans (b1 i hi), fun x m hx hz => b2' x m hx (b2 x m hx hz), by omega, by omega, by omega, fun i hi => (b6' i (by omega)).trans (b6 i hi)⟩, by omega, by omega, fun j hj => ⟨(w4' j (by omega)).1.trans (w4 j hj).1, (w4' j (by omega)).2.trans (w4 j hj).2⟩, fun j hj => (w5' j (by omega)).trans (w5 j hj)⟩
theorem zw3299 : Cond.methodLink "TemplateHouseModel" 686 ⟨"TemplateHouseModel", "isSpace", "(I)Z"⟩ ∈ zT := zsub14 179 (by decide +kernel) (by decide +kernel)
theorem zw3295 : Cond.methodLink "TemplateHouseModel" 683 ⟨"TemplateHouseModel", "isLineTag", "(I)Z"⟩ ∈ zT := zsub14 175 (by decide +kernel) (by decide +kernel)
theorem zw3291 : Cond.methodLink "TemplateHouseModel" 680 ⟨"TemplateHouseModel", "line", "(II)V"⟩ ∈ zT := zsub14 171 (by decide +kernel) (by decide +kernel)
theorem zw3294 : Cond.code ⟨"TemplateHouseModel", "line", "(II)V"⟩ prog_15_method_57_code 9 (Option.none : Option Jvm.ClassFile.FieldType) ∈ zT := zsub14 174 rfl rfl
theorem zw3293 : Cond.instanceMethod ⟨"TemplateHouseModel", "line", "(II)V"⟩ ∈ zT := zsub14 173 (by decide +kernel) (by decide +kernel)
theorem zwp218 : Cond.selects "TemplateHouseModel" ⟨"TemplateHouseModel", "line", "(II)V"⟩ ⟨"TemplateHouseModel", "line", "(II)V"⟩ ∈ zT := zin 218 (by decide +kernel) (by decide +kernel)
theorem zw3290 : Cond.code ⟨"TemplateHouseModel", "lines", "(I)V"⟩ prog_15_method_56_code 4 (Option.none : Option Jvm.ClassFile.FieldType) ∈ zT := zsub14 170 rfl rfl
theorem zw3289 : Cond.instanceMethod ⟨"TemplateHouseModel", "lines", "(I)V"⟩ ∈ zT := zsub14 169 (by decide +kernel) (by decide +kernel)
theorem zwp219 : Cond.selects "TemplateHouseModel" ⟨"TemplateHouseModel", "lines", "(I)V"⟩ ⟨"TemplateHouseModel", "lines", "(I)V"⟩ ∈ zT := zin 219 (by decide +kernel) (by decide +kernel)
abbrev cX14_line : ByteArray := prog_15_method_57_code
abbrev yX14_line : MethodName := ⟨"TemplateHouseModel", "line", "(II)V"⟩
theorem dmX14_line : zDv yX14_line cX14_line 9 none 2 := ⟨⟨⟨by decide +kernel, by decide +kernel, by decide +kernel⟩, zw3294, zw14⟩, zw3293, zwp218⟩
abbrev cX14_lines : ByteArray := prog_15_method_56_code
abbrev yX14_lines : MethodName := ⟨"TemplateHouseModel", "lines", "(I)V"⟩
theorem dmX14_lines : zDv yX14_lines cX14_lines 4 none 1 := ⟨⟨⟨by decide +kernel, by decide +kernel, by decide +kernel⟩, zw3290, zw14⟩, zw3289, zwp219⟩
theorem dX14_line_0 : decode cX14_line 0 = .ok (.iconst 0, 1) := by decide +kernel
theorem dX14_line_1 : decode cX14_line 1 = .ok (.istore_n 3, 1) := by decide +kernel
theorem dX14_line_2 : decode cX14_line 2 = .ok (.iconst 0, 1) := by decide +kernel
theorem dX14_line_3 : decode cX14_line 3 = .ok (.istore 4, 2) := by decide +kernel
theorem dX14_line_5 : decode cX14_line 5 = .ok (.iload_n 1, 1) := by decide +kernel
theorem dX14_line_6 : decode cX14_line 6 = .ok (.istore 5, 2) := by decide +kernel
theorem dX14_line_8 : decode cX14_line 8 = .ok (.iload 5, 2) := by decide +kernel
theorem dX14_line_10 : decode cX14_line 10 = .ok (.iload_n 2, 1) := by decide +kernel
theorem dX14_line_11 : decode cX14_line 11 = .ok (.if_icmp .ge 36, 3) := by decide +kernel
theorem dX14_line_47 : decode cX14_line 47 = .ok (.iload_n 3, 1) := by decide +kernel
theorem dX14_line_48 : decode cX14_line 48 = .ok (.iconst 1, 1) := by decide +kernel
theorem dX14_line_49 : decode cX14_line 49 = .ok (.if_icmp .ne 52, 3) := by decide +kernel
theorem dX14_line_101 : decode cX14_line 101 = .ok (.iload_n 1, 1) := by decide +kernel
theorem dX14_line_102 : decode cX14_line 102 = .ok (.istore 5, 2) := by decide +kernel
theorem dX14_line_104 : decode cX14_line 104 = .ok (.iload 5, 2) := by decide +kernel
theorem dX14_line_106 : decode cX14_line 106 = .ok (.iload_n 2, 1) := by decide +kernel
theorem dX14_line_107 : decode cX14_line 107 = .ok (.if_icmp .ge 18, 3) := by decide +kernel
theorem dX14_line_125 : decode cX14_line 125 = .ok (.iload 5, 2) := by decide +kernel
theorem dX14_line_127 : decode cX14_line 127 = .ok (.iload_n 1, 1) := by decide +kernel
theorem dX14_line_128 : decode cX14_line 128 = .ok (.if_icmp .eq 9, 3) := by decide +kernel
theorem dX14_line_137 : decode cX14_line 137 = .ok (.return_, 1) := by decide +kernel
theorem dX14_line_131 : decode cX14_line 131 = .ok (.iload 5, 2) := by decide +kernel
theorem dX14_line_133 : decode cX14_line 133 = .ok (.iload_n 2, 1) := by decide +kernel
theorem dX14_line_134 : decode cX14_line 134 = .ok (.if_icmp .ne 4, 3) := by decide +kernel
theorem dX14_line_138 : decode cX14_line 138 = .ok (.aload_n 0, 1) := by decide +kernel
theorem dX14_line_139 : decode cX14_line 139 = .ok (.getfield 49, 3) := by decide +kernel
theorem dX14_line_142 : decode cX14_line 142 = .ok (.iload 5, 2) := by decide +kernel
theorem dX14_line_144 : decode cX14_line 144 = .ok (.iaload, 1) := by decide +kernel
theorem dX14_line_145 : decode cX14_line 145 = .ok (.istore 6, 2) := by decide +kernel
theorem dX14_line_147 : decode cX14_line 147 = .ok (.iload 6, 2) := by decide +kernel
theorem dX14_line_149 : decode cX14_line 149 = .ok (.iconst 4, 1) := by decide +kernel
theorem dX14_line_150 : decode cX14_line 150 = .ok (.if_icmp .eq 18, 3) := by decide +kernel
theorem dX14_line_168 : decode cX14_line 168 = .ok (.aload_n 0, 1) := by decide +kernel
theorem dX14_line_169 : decode cX14_line 169 = .ok (.getfield 52, 3) := by decide +kernel
theorem dX14_line_172 : decode cX14_line 172 = .ok (.iload 5, 2) := by decide +kernel
theorem dX14_line_174 : decode cX14_line 174 = .ok (.iaload, 1) := by decide +kernel
theorem dX14_line_175 : decode cX14_line 175 = .ok (.istore 7, 2) := by decide +kernel
theorem dX14_line_177 : decode cX14_line 177 = .ok (.aload_n 0, 1) := by decide +kernel
theorem dX14_line_178 : decode cX14_line 178 = .ok (.getfield 334, 3) := by decide +kernel
theorem dX14_line_181 : decode cX14_line 181 = .ok (.getfield 362, 3) := by decide +kernel
theorem dX14_line_184 : decode cX14_line 184 = .ok (.iload 7, 2) := by decide +kernel
theorem dX14_line_186 : decode cX14_line 186 = .ok (.sipush 4096, 3) := by decide +kernel
theorem dX14_line_189 : decode cX14_line 189 = .ok (.aload_n 0, 1) := by decide +kernel
theorem dX14_line_190 : decode cX14_line 190 = .ok (.getfield 334, 3) := by decide +kernel
theorem dX14_line_193 : decode cX14_line 193 = .ok (.getfield 371, 3) := by decide +kernel
theorem dX14_line_196 : decode cX14_line 196 = .ok (.imul, 1) := by decide +kernel
theorem dX14_line_197 : decode cX14_line 197 = .ok (.iload 5, 2) := by decide +kernel
theorem dX14_line_199 : decode cX14_line 199 = .ok (.iadd, 1) := by decide +kernel
theorem dX14_line_200 : decode cX14_line 200 = .ok (.iload_n 1, 1) := by decide +kernel
theorem dX14_line_201 : decode cX14_line 201 = .ok (.isub, 1) := by decide +kernel
theorem dX14_line_202 : decode cX14_line 202 = .ok (.iastore, 1) := by decide +kernel
theorem dX14_line_203 : decode cX14_line 203 = .ok (.iload_n 1, 1) := by decide +kernel
theorem dX14_line_204 : decode cX14_line 204 = .ok (.istore 8, 2) := by decide +kernel
theorem dX14_line_206 : decode cX14_line 206 = .ok (.iload 8, 2) := by decide +kernel
theorem dX14_line_208 : decode cX14_line 208 = .ok (.iload 5, 2) := by decide +kernel
theorem dX14_line_210 : decode cX14_line 210 = .ok (.if_icmp .ge 53, 3) := by decide +kernel
theorem dX14_line_263 : decode cX14_line 263 = .ok (.return_, 1) := by decide +kernel
theorem dX14_line_213 : decode cX14_line 213 = .ok (.aload_n 0, 1) := by decide +kernel
theorem dX14_line_214 : decode cX14_line 214 = .ok (.getfield 58, 3) := by decide +kernel
theorem dX14_line_217 : decode cX14_line 217 = .ok (.iload 8, 2) := by decide +kernel
theorem dX14_line_219 : decode cX14_line 219 = .ok (.iconst 1, 1) := by decide +kernel
theorem dX14_line_220 : decode cX14_line 220 = .ok (.bastore, 1) := by decide +kernel
theorem dX14_line_221 : decode cX14_line 221 = .ok (.aload_n 0, 1) := by decide +kernel
theorem dX14_line_222 : decode cX14_line 222 = .ok (.getfield 334, 3) := by decide +kernel
theorem dX14_line_225 : decode cX14_line 225 = .ok (.getfield 377, 3) := by decide +kernel
theorem dX14_line_228 : decode cX14_line 228 = .ok (.aload_n 0, 1) := by decide +kernel
theorem dX14_line_229 : decode cX14_line 229 = .ok (.getfield 334, 3) := by decide +kernel
theorem dX14_line_232 : decode cX14_line 232 = .ok (.getfield 371, 3) := by decide +kernel
theorem dX14_line_235 : decode cX14_line 235 = .ok (.aload_n 0, 1) := by decide +kernel
theorem dX14_line_236 : decode cX14_line 236 = .ok (.getfield 52, 3) := by decide +kernel
theorem dX14_line_239 : decode cX14_line 239 = .ok (.iload 8, 2) := by decide +kernel
theorem dX14_line_241 : decode cX14_line 241 = .ok (.iaload, 1) := by decide +kernel
theorem dX14_line_242 : decode cX14_line 242 = .ok (.i2b, 1) := by decide +kernel
theorem dX14_line_243 : decode cX14_line 243 = .ok (.bastore, 1) := by decide +kernel
theorem dX14_line_244 : decode cX14_line 244 = .ok (.aload_n 0, 1) := by decide +kernel
theorem dX14_line_245 : decode cX14_line 245 = .ok (.getfield 334, 3) := by decide +kernel
theorem dX14_line_248 : decode cX14_line 248 = .ok (.dup, 1) := by decide +kernel
theorem dX14_line_249 : decode cX14_line 249 = .ok (.getfield 371, 3) := by decide +kernel
theorem dX14_line_252 : decode cX14_line 252 = .ok (.iconst 1, 1) := by decide +kernel
theorem dX14_line_253 : decode cX14_line 253 = .ok (.iadd, 1) := by decide +kernel
theorem dX14_line_254 : decode cX14_line 254 = .ok (.putfield 371, 3) := by decide +kernel
theorem dX14_line_257 : decode cX14_line 257 = .ok (.iinc 8 1, 3) := by decide +kernel
theorem dX14_line_260 : decode cX14_line 260 = .ok (.goto (-54), 3) := by decide +kernel
theorem dX14_line_153 : decode cX14_line 153 = .ok (.iload 6, 2) := by decide +kernel
theorem dX14_line_155 : decode cX14_line 155 = .ok (.bipush 6, 2) := by decide +kernel
theorem dX14_line_157 : decode cX14_line 157 = .ok (.if_icmp .eq 11, 3) := by decide +kernel
theorem dX14_line_160 : decode cX14_line 160 = .ok (.iload 6, 2) := by decide +kernel
theorem dX14_line_162 : decode cX14_line 162 = .ok (.bipush 7, 2) := by decide +kernel
theorem dX14_line_164 : decode cX14_line 164 = .ok (.if_icmp .eq 4, 3) := by decide +kernel
theorem dX14_line_167 : decode cX14_line 167 = .ok (.return_, 1) := by decide +kernel
theorem dX14_line_110 : decode cX14_line 110 = .ok (.aload_n 0, 1) := by decide +kernel
theorem dX14_line_111 : decode cX14_line 111 = .ok (.iload 5, 2) := by decide +kernel
theorem dX14_line_113 : decode cX14_line 113 = .ok (.invokevirtual 686, 3) := by decide +kernel
theorem dX14_line_116 : decode cX14_line 116 = .ok (.ifCond .eq 9, 3) := by decide +kernel
theorem dX14_line_119 : decode cX14_line 119 = .ok (.iinc 5 1, 3) := by decide +kernel
theorem dX14_line_122 : decode cX14_line 122 = .ok (.goto (-18), 3) := by decide +kernel
theorem dX14_line_52 : decode cX14_line 52 = .ok (.iload 4, 2) := by decide +kernel
theorem dX14_line_54 : decode cX14_line 54 = .ok (.ifCond .ne 47, 3) := by decide +kernel
theorem dX14_line_57 : decode cX14_line 57 = .ok (.iload_n 1, 1) := by decide +kernel
theorem dX14_line_58 : decode cX14_line 58 = .ok (.istore 5, 2) := by decide +kernel
theorem dX14_line_60 : decode cX14_line 60 = .ok (.iload 5, 2) := by decide +kernel
theorem dX14_line_62 : decode cX14_line 62 = .ok (.iload_n 2, 1) := by decide +kernel
theorem dX14_line_63 : decode cX14_line 63 = .ok (.if_icmp .ge 22, 3) := by decide +kernel
theorem dX14_line_85 : decode cX14_line 85 = .ok (.iload_n 2, 1) := by decide +kernel
theorem dX14_line_86 : decode cX14_line 86 = .ok (.aload_n 0, 1) := by decide +kernel
theorem dX14_line_87 : decode cX14_line 87 = .ok (.getfield 554, 3) := by decide +kernel
theorem dX14_line_90 : decode cX14_line 90 = .ok (.if_icmp .ge 10, 3) := by decide +kernel
theorem dX14_line_100 : decode cX14_line 100 = .ok (.return_, 1) := by decide +kernel
theorem dX14_line_93 : decode cX14_line 93 = .ok (.aload_n 0, 1) := by decide +kernel
theorem dX14_line_94 : decode cX14_line 94 = .ok (.getfield 58, 3) := by decide +kernel
theorem dX14_line_97 : decode cX14_line 97 = .ok (.iload_n 2, 1) := by decide +kernel
theorem dX14_line_98 : decode cX14_line 98 = .ok (.iconst 1, 1) := by decide +kernel
theorem dX14_line_99 : decode cX14_line 99 = .ok (.bastore, 1) := by decide +kernel
theorem dX14_line_66 : decode cX14_line 66 = .ok (.aload_n 0, 1) := by decide +kernel
theorem dX14_line_67 : decode cX14_line 67 = .ok (.getfield 58, 3) := by decide +kernel
theorem dX14_line_70 : decode cX14_line 70 = .ok (.iload 5, 2) := by decide +kernel
theorem dX14_line_72 : decode cX14_line 72 = .ok (.aload_n 0, 1) := by decide +kernel
theorem dX14_line_73 : decode cX14_line 73 = .ok (.iload 5, 2) := by decide +kernel
theorem dX14_line_75 : decode cX14_line 75 = .ok (.invokevirtual 686, 3) := by decide +kernel
theorem dX14_line_78 : decode cX14_line 78 = .ok (.bastore, 1) := by decide +kernel
theorem dX14_line_79 : decode cX14_line 79 = .ok (.iinc 5 1, 3) := by decide +kernel
theorem dX14_line_82 : decode cX14_line 82 = .ok (.goto (-22), 3) := by decide +kernel
theorem dX14_line_14 : decode cX14_line 14 = .ok (.aload_n 0, 1) := by decide +kernel
theorem dX14_line_15 : decode cX14_line 15 = .ok (.iload 5, 2) := by decide +kernel
theorem dX14_line_17 : decode cX14_line 17 = .ok (.invokevirtual 683, 3) := by decide +kernel
theorem dX14_line_20 : decode cX14_line 20 = .ok (.ifCond .eq 9, 3) := by decide +kernel
theorem dX14_line_29 : decode cX14_line 29 = .ok (.aload_n 0, 1) := by decide +kernel
theorem dX14_line_30 : decode cX14_line 30 = .ok (.iload 5, 2) := by decide +kernel
theorem dX14_line_32 : decode cX14_line 32 = .ok (.invokevirtual 686, 3) := by decide +kernel
theorem dX14_line_35 : decode cX14_line 35 = .ok (.ifCond .ne 6, 3) := by decide +kernel
theorem dX14_line_41 : decode cX14_line 41 = .ok (.iinc 5 1, 3) := by decide +kernel
theorem dX14_line_44 : decode cX14_line 44 = .ok (.goto (-36), 3) := by decide +kernel
theorem dX14_line_38 : decode cX14_line 38 = .ok (.iinc 4 1, 3) := by decide +kernel
theorem dX14_line_23 : decode cX14_line 23 = .ok (.iinc 3 1, 3) := by decide +kernel
theorem dX14_line_26 : decode cX14_line 26 = .ok (.goto 15, 3) := by decide +kernel
theorem dX14_lines_0 : decode cX14_lines 0 = .ok (.iload_n 1, 1) := by decide +kernel
theorem dX14_lines_1 : decode cX14_lines 1 = .ok (.istore_n 2, 1) := by decide +kernel
theorem dX14_lines_2 : decode cX14_lines 2 = .ok (.iload_n 2, 1) := by decide +kernel
theorem dX14_lines_3 : decode cX14_lines 3 = .ok (.aload_n 0, 1) := by decide +kernel
theorem dX14_lines_4 : decode cX14_lines 4 = .ok (.getfield 554, 3) := by decide +kernel
theorem dX14_lines_7 : decode cX14_lines 7 = .ok (.if_icmp .ge 42, 3) := by decide +kernel
theorem dX14_lines_49 : decode cX14_lines 49 = .ok (.return_, 1) := by decide +kernel
theorem dX14_lines_10 : decode cX14_lines 10 = .ok (.iload_n 2, 1) := by decide +kernel
theorem dX14_lines_11 : decode cX14_lines 11 = .ok (.istore_n 3, 1) := by decide +kernel
theorem dX14_lines_12 : decode cX14_lines 12 = .ok (.iload_n 3, 1) := by decide +kernel
theorem dX14_lines_13 : decode cX14_lines 13 = .ok (.aload_n 0, 1) := by decide +kernel
theorem dX14_lines_14 : decode cX14_lines 14 = .ok (.getfield 554, 3) := by decide +kernel
theorem dX14_lines_17 : decode cX14_lines 17 = .ok (.if_icmp .ge 19, 3) := by decide +kernel
theorem dX14_lines_36 : decode cX14_lines 36 = .ok (.aload_n 0, 1) := by decide +kernel
theorem dX14_lines_37 : decode cX14_lines 37 = .ok (.iload_n 2, 1) := by decide +kernel
theorem dX14_lines_38 : decode cX14_lines 38 = .ok (.iload_n 3, 1) := by decide +kernel
theorem dX14_lines_39 : decode cX14_lines 39 = .ok (.invokevirtual 680, 3) := by decide +kernel
theorem dX14_lines_42 : decode cX14_lines 42 = .ok (.iload_n 3, 1) := by decide +kernel
theorem dX14_lines_43 : decode cX14_lines 43 = .ok (.iconst 1, 1) := by decide +kernel
theorem dX14_lines_44 : decode cX14_lines 44 = .ok (.iadd, 1) := by decide +kernel
theorem dX14_lines_45 : decode cX14_lines 45 = .ok (.istore_n 2, 1) := by decide +kernel
theorem dX14_lines_46 : decode cX14_lines 46 = .ok (.goto (-44), 3) := by decide +kernel
theorem dX14_lines_20 : decode cX14_lines 20 = .ok (.aload_n 0, 1) := by decide +kernel
theorem dX14_lines_21 : decode cX14_lines 21 = .ok (.getfield 49, 3) := by decide +kernel
theorem dX14_lines_24 : decode cX14_lines 24 = .ok (.iload_n 3, 1) := by decide +kernel
theorem dX14_lines_25 : decode cX14_lines 25 = .ok (.iaload, 1) := by decide +kernel
theorem dX14_lines_26 : decode cX14_lines 26 = .ok (.iconst 2, 1) := by decide +kernel
theorem dX14_lines_27 : decode cX14_lines 27 = .ok (.if_icmp .eq 9, 3) := by decide +kernel
theorem dX14_lines_30 : decode cX14_lines 30 = .ok (.iinc 3 1, 3) := by decide +kernel
theorem dX14_lines_33 : decode cX14_lines 33 = .ok (.goto (-21), 3) := by decide +kernel
def pre_X14_line_w (σ : rS) (x1 : Int) (x2 : Int) (gg : Nat) (g : Nat → Int → Int) (nn : Int) : Prop := rR σ 7 = gg ∧ rgk gg ∧ 0 ≤ x1 ∧ x1 ≤ x2 ∧ x2 ≤ (rF σ 0 38) ∧ (rF σ 0 38) ≤ 8990 ∧ x2 - x1 ≤ 4090 ∧ 0 ≤ (rF σ gg 9) ∧ (rF σ gg 9) + (x2 - x1) ≤ 59990 ∧ WNp σ ∧ (x2 < (rF σ 0 38) → (rA σ 1034 (x2)) = 2) ∧ WL σ gg g nn x1 x2 ∧ GS σ gg g ∧ nn ≤ (rF σ gg 7) ∧ (rF σ gg 7) ≤ 50000
def post_X14_line_w (σ : rS) (x1 : Int) (x2 : Int) (gg : Nat) (g : Nat → Int → Int) (nn : Int) (σ' : rS) : Prop := (rF σ gg 9) ≤ (rF σ' gg 9) ∧ (rF σ' gg 9) ≤ (rF σ gg 9) + (x2 - x1) ∧ WNp σ' ∧ GS σ' gg g ∧ RG (sF σ gg 7 nn) σ' gg 0
def inv_X14_line_w_8 (σ : rS) (x1 : Int) (x2 : Int) (gg : Nat) (g : Nat → Int → Int) (nn : Int)  (s : rS) (tags : Int) (oth : Int) (k : Int) : Prop := x1 ≤ k ∧ k ≤ x2 ∧ 0 ≤ tags ∧ tags ≤ k ∧ 0 ≤ oth ∧ oth ≤ k ∧ (rF s gg 9) = (rF σ gg 9) ∧ GS s gg g ∧ RG (sF σ gg 7 nn) s gg 0 ∧ WNp s
def mu_X14_line_w_8 (σ : rS) (x1 : Int) (x2 : Int) (gg : Nat) (g : Nat → Int → Int) (nn : Int) (s : rS) (tags : Int) (oth : Int) (k : Int) : Nat := (1 + (x2 - k).toNat)
def inv_X14_line_w_60 (σ : rS) (x1 : Int) (x2 : Int) (gg : Nat) (g : Nat → Int → Int) (nn : Int)  (s : rS) (k : Int) : Prop := x1 ≤ k ∧ k ≤ x2 ∧ (rF s gg 9) = (rF σ gg 9) ∧ GS s gg g ∧ RG (sF σ gg 7 nn) s gg 0 ∧ WNp s
def mu_X14_line_w_60 (σ : rS) (x1 : Int) (x2 : Int) (gg : Nat) (g : Nat → Int → Int) (nn : Int) (s : rS) (k : Int) : Nat := (1 + (x2 - k).toNat)
def inv_X14_line_w_104 (σ : rS) (x1 : Int) (x2 : Int) (gg : Nat) (g : Nat → Int → Int) (nn : Int)  (s : rS) (k : Int) : Prop := x1 ≤ k ∧ k ≤ x2 ∧ (rF s gg 9) = (rF σ gg 9) ∧ SPn (rA σ 1034) x1 k ∧ GS s gg g ∧ RG (sF σ gg 7 nn) s gg 0 ∧ WNp s
def mu_X14_line_w_104 (σ : rS) (x1 : Int) (x2 : Int) (gg : Nat) (g : Nat → Int → Int) (nn : Int) (s : rS) (k : Int) : Nat := (1 + (x2 - k).toNat)
def inv_X14_line_w_206 (σ : rS) (x1 : Int) (x2 : Int) (gg : Nat) (g : Nat → Int → Int) (nn : Int)  (s : rS) (fi : Int) (k : Int) : Prop := x1 ≤ fi ∧ fi ≤ x2 ∧ x1 ≤ k ∧ k ≤ fi ∧ (rF s gg 9) = (rF σ gg 9) + (k - x1) ∧ SPn (rA σ 1034) x1 fi ∧ GS s gg g ∧ RG (sF σ gg 7 nn) s gg 0 ∧ WNp s
def mu_X14_line_w_206 (σ : rS) (x1 : Int) (x2 : Int) (gg : Nat) (g : Nat → Int → Int) (nn : Int) (s : rS) (fi : Int) (k : Int) : Nat := (1 + (x2 - k).toNat)
def VC_X14_line_w (σ : rS) (x1 : Int) (x2 : Int) (gg : Nat) (g : Nat → Int → Int) (nn : Int) (Q : rS → Prop) : Prop := rgk (rR σ 7) ∧ (inv_X14_line_w_8 σ x1 x2 gg g nn σ 0 0 x1)
def VC_X14_line_w_206 (σ : rS) (x1 : Int) (x2 : Int) (gg : Nat) (g : Nat → Int → Int) (nn : Int) (Q : rS → Prop) : Prop := ∀ (s206 : rS) (y206_5 : Int) (y206_8 : Int), rWF s206 → rng y206_5 → rng y206_8 → rR s206 7 = rR σ 7 → rF s206 0 38 = rF σ 0 38 → rF s206 0 42 = rF σ 0 42 → (∀ i, rA s206 1034 i = rA σ 1034 i) → (∀ i, rA s206 1035 i = rA σ 1035 i) → (∀ i, rA s206 1036 i = rA σ 1036 i) → rF s206 (rR σ 7) 7 = rF σ (rR σ 7) 7 → rF s206 (rR σ 7) 12 = rF σ (rR σ 7) 12 → rF s206 (rR σ 7) 38 = rF σ (rR σ 7) 38 → inv_X14_line_w_206 σ x1 x2 gg g nn s206 y206_5 y206_8 → (((y206_5 ≤ y206_8 → Q s206) ∧ (¬ y206_5 ≤ y206_8 → (0 ≤ y206_8 ∧ y206_8 < 9000) ∧ (rng (rF s206 (rR σ 7) 9) → (0 ≤ y206_8 ∧ y206_8 < 9000) ∧ (rng (rA s206 1035 y206_8) → (0 ≤ (rF s206 (rR σ 7) 9) ∧ (rF s206 (rR σ 7) 9) < 60000) ∧ rng ((rF s206 (rR σ 7) 9) + 1) ∧ rng (y206_8 + 1) ∧ (inv_X14_line_w_206 σ x1 x2 gg g nn (sF (sA (sA s206 1037 y206_8 (inar .boolean 1)) (1000 * ((rR σ 7) + 1) + 8) (rF s206 (rR σ 7) 9) (inar .byte (f_i2b (rA s206 1035 y206_8)))) (rR σ 7) 9 ((rF s206 (rR σ 7) 9) + 1)) y206_5 (y206_8 + 1) ∧ (mu_X14_line_w_206 σ x1 x2 gg g nn (sF (sA (sA s206 1037 y206_8 (inar .boolean 1)) (1000 * ((rR σ 7) + 1) + 8) (rF s206 (rR σ 7) 9) (inar .byte (f_i2b (rA s206 1035 y206_8)))) (rR σ 7) 9 ((rF s206 (rR σ 7) 9) + 1)) y206_5 (y206_8 + 1)) < (mu_X14_line_w_206 σ x1 x2 gg g nn s206 y206_5 y206_8)))))))
def VC_X14_line_w_206m (σ : rS) (x1 : Int) (x2 : Int) (gg : Nat) (g : Nat → Int → Int) (nn : Int) : Prop := ∀ (s206 : rS) (y206_5 : Int) (y206_8 : Int), rWF s206 → rng y206_5 → rng y206_8 → rR s206 7 = rR σ 7 → rF s206 0 38 = rF σ 0 38 → rF s206 0 42 = rF σ 0 42 → (∀ i, rA s206 1034 i = rA σ 1034 i) → (∀ i, rA s206 1035 i = rA σ 1035 i) → (∀ i, rA s206 1036 i = rA σ 1036 i) → rF s206 (rR σ 7) 7 = rF σ (rR σ 7) 7 → rF s206 (rR σ 7) 12 = rF σ (rR σ 7) 12 → rF s206 (rR σ 7) 38 = rF σ (rR σ 7) 38 → inv_X14_line_w_206 σ x1 x2 gg g nn s206 y206_5 y206_8 → 0 < (mu_X14_line_w_206 σ x1 x2 gg g nn s206 y206_5 y206_8)
def VC_X14_line_w_104 (σ : rS) (x1 : Int) (x2 : Int) (gg : Nat) (g : Nat → Int → Int) (nn : Int) (Q : rS → Prop) : Prop := ∀ (s104 : rS) (y104_5 : Int), rWF s104 → rng y104_5 → rR s104 7 = rR σ 7 → rF s104 0 38 = rF σ 0 38 → rF s104 0 42 = rF σ 0 42 → (∀ i, rA s104 1034 i = rA σ 1034 i) → (∀ i, rA s104 1035 i = rA σ 1035 i) → (∀ i, rA s104 1036 i = rA σ 1036 i) → rF s104 (rR σ 7) 7 = rF σ (rR σ 7) 7 → rF s104 (rR σ 7) 12 = rF σ (rR σ 7) 12 → rF s104 (rR σ 7) 38 = rF σ (rR σ 7) 38 → inv_X14_line_w_104 σ x1 x2 gg g nn s104 y104_5 → (((x2 ≤ y104_5 → ((y104_5 = x1 → Q s104) ∧ (¬ y104_5 = x1 → ((¬ y104_5 = x2 → (0 ≤ y104_5 ∧ y104_5 < 9000) ∧ (rng (rA s104 1034 y104_5) → (((rA s104 1034 y104_5) = 4 → (0 ≤ y104_5 ∧ y104_5 < 9000) ∧ (rng (rA s104 1035 y104_5) → (rng (rF s104 (rR σ 7) 9) → (0 ≤ (rA s104 1035 y104_5) ∧ (rA s104 1035 y104_5) < 50000) ∧ rng (((4096 * (rF s104 (rR σ 7) 9)) + y104_5) - x1) ∧ (inv_X14_line_w_206 σ x1 x2 gg g nn (sT s104 (rR σ 7) 4 (rA s104 1035 y104_5) (((4096 * (rF s104 (rR σ 7) 9)) + y104_5) - x1)) y104_5 x1)))) ∧ (¬ (rA s104 1034 y104_5) = 4 → (((rA s104 1034 y104_5) = 6 → (0 ≤ y104_5 ∧ y104_5 < 9000) ∧ (rng (rA s104 1035 y104_5) → (rng (rF s104 (rR σ 7) 9) → (0 ≤ (rA s104 1035 y104_5) ∧ (rA s104 1035 y104_5) < 50000) ∧ rng (((4096 * (rF s104 (rR σ 7) 9)) + y104_5) - x1) ∧ (inv_X14_line_w_206 σ x1 x2 gg g nn (sT s104 (rR σ 7) 4 (rA s104 1035 y104_5) (((4096 * (rF s104 (rR σ 7) 9)) + y104_5) - x1)) y104_5 x1)))) ∧ (¬ (rA s104 1034 y104_5) = 6 → (((rA s104 1034 y104_5) = 7 → (0 ≤ y104_5 ∧ y104_5 < 9000) ∧ (rng (rA s104 1035 y104_5) → (rng (rF s104 (rR σ 7) 9) → (0 ≤ (rA s104 1035 y104_5) ∧ (rA s104 1035 y104_5) < 50000) ∧ rng (((4096 * (rF s104 (rR σ 7) 9)) + y104_5) - x1) ∧ (inv_X14_line_w_206 σ x1 x2 gg g nn (sT s104 (rR σ 7) 4 (rA s104 1035 y104_5) (((4096 * (rF s104 (rR σ 7) 9)) + y104_5) - x1)) y104_5 x1)))) ∧ (¬ (rA s104 1034 y104_5) = 7 → Q s104)))))))) ∧ (y104_5 = x2 → Q s104))))) ∧ (¬ x2 ≤ y104_5 → pre_X14_isSpace s104 y104_5 ∧ (∀ (v113 : Int), rng v113 → post_X14_isSpace s104 y104_5 v113 → ((v113 = 0 → ((y104_5 = x1 → Q s104) ∧ (¬ y104_5 = x1 → ((¬ y104_5 = x2 → (0 ≤ y104_5 ∧ y104_5 < 9000) ∧ (rng (rA s104 1034 y104_5) → (((rA s104 1034 y104_5) = 4 → (0 ≤ y104_5 ∧ y104_5 < 9000) ∧ (rng (rA s104 1035 y104_5) → (rng (rF s104 (rR σ 7) 9) → (0 ≤ (rA s104 1035 y104_5) ∧ (rA s104 1035 y104_5) < 50000) ∧ rng (((4096 * (rF s104 (rR σ 7) 9)) + y104_5) - x1) ∧ (inv_X14_line_w_206 σ x1 x2 gg g nn (sT s104 (rR σ 7) 4 (rA s104 1035 y104_5) (((4096 * (rF s104 (rR σ 7) 9)) + y104_5) - x1)) y104_5 x1)))) ∧ (¬ (rA s104 1034 y104_5) = 4 → (((rA s104 1034 y104_5) = 6 → (0 ≤ y104_5 ∧ y104_5 < 9000) ∧ (rng (rA s104 1035 y104_5) → (rng (rF s104 (rR σ 7) 9) → (0 ≤ (rA s104 1035 y104_5) ∧ (rA s104 1035 y104_5) < 50000) ∧ rng (((4096 * (rF s104 (rR σ 7) 9)) + y104_5) - x1) ∧ (inv_X14_line_w_206 σ x1 x2 gg g nn (sT s104 (rR σ 7) 4 (rA s104 1035 y104_5) (((4096 * (rF s104 (rR σ 7) 9)) + y104_5) - x1)) y104_5 x1)))) ∧ (¬ (rA s104 1034 y104_5) = 6 → (((rA s104 1034 y104_5) = 7 → (0 ≤ y104_5 ∧ y104_5 < 9000) ∧ (rng (rA s104 1035 y104_5) → (rng (rF s104 (rR σ 7) 9) → (0 ≤ (rA s104 1035 y104_5) ∧ (rA s104 1035 y104_5) < 50000) ∧ rng (((4096 * (rF s104 (rR σ 7) 9)) + y104_5) - x1) ∧ (inv_X14_line_w_206 σ x1 x2 gg g nn (sT s104 (rR σ 7) 4 (rA s104 1035 y104_5) (((4096 * (rF s104 (rR σ 7) 9)) + y104_5) - x1)) y104_5 x1)))) ∧ (¬ (rA s104 1034 y104_5) = 7 → Q s104)))))))) ∧ (y104_5 = x2 → Q s104))))) ∧ (¬ v113 = 0 → rng (y104_5 + 1) ∧ (inv_X14_line_w_104 σ x1 x2 gg g nn s104 (y104_5 + 1) ∧ (mu_X14_line_w_104 σ x1 x2 gg g nn s104 (y104_5 + 1)) < (mu_X14_line_w_104 σ x1 x2 gg g nn s104 y104_5))))))))
def VC_X14_line_w_104m (σ : rS) (x1 : Int) (x2 : Int) (gg : Nat) (g : Nat → Int → Int) (nn : Int) : Prop := ∀ (s104 : rS) (y104_5 : Int), rWF s104 → rng y104_5 → rR s104 7 = rR σ 7 → rF s104 0 38 = rF σ 0 38 → rF s104 0 42 = rF σ 0 42 → (∀ i, rA s104 1034 i = rA σ 1034 i) → (∀ i, rA s104 1035 i = rA σ 1035 i) → (∀ i, rA s104 1036 i = rA σ 1036 i) → rF s104 (rR σ 7) 7 = rF σ (rR σ 7) 7 → rF s104 (rR σ 7) 12 = rF σ (rR σ 7) 12 → rF s104 (rR σ 7) 38 = rF σ (rR σ 7) 38 → inv_X14_line_w_104 σ x1 x2 gg g nn s104 y104_5 → 0 < (mu_X14_line_w_104 σ x1 x2 gg g nn s104 y104_5)
def VC_X14_line_w_60 (σ : rS) (x1 : Int) (x2 : Int) (gg : Nat) (g : Nat → Int → Int) (nn : Int) (Q : rS → Prop) : Prop := ∀ (s60 : rS) (y60_5 : Int), rWF s60 → rng y60_5 → rR s60 7 = rR σ 7 → rF s60 0 38 = rF σ 0 38 → rF s60 0 42 = rF σ 0 42 → (∀ i, rA s60 1034 i = rA σ 1034 i) → (∀ i, rA s60 1035 i = rA σ 1035 i) → (∀ i, rA s60 1036 i = rA σ 1036 i) → rF s60 (rR σ 7) 7 = rF σ (rR σ 7) 7 → rF s60 (rR σ 7) 12 = rF σ (rR σ 7) 12 → rF s60 (rR σ 7) 38 = rF σ (rR σ 7) 38 → inv_X14_line_w_60 σ x1 x2 gg g nn s60 y60_5 → (((x2 ≤ y60_5 → (rng (rF s60 0 38) → (((rF s60 0 38) ≤ x2 → Q s60) ∧ (¬ (rF s60 0 38) ≤ x2 → (0 ≤ x2 ∧ x2 < 9000) ∧ Q (sA s60 1037 x2 (inar .boolean 1)))))) ∧ (¬ x2 ≤ y60_5 → pre_X14_isSpace s60 y60_5 ∧ (∀ (v75 : Int), rng v75 → post_X14_isSpace s60 y60_5 v75 → (0 ≤ y60_5 ∧ y60_5 < 9000) ∧ rng (y60_5 + 1) ∧ (inv_X14_line_w_60 σ x1 x2 gg g nn (sA s60 1037 y60_5 (inar .boolean v75)) (y60_5 + 1) ∧ (mu_X14_line_w_60 σ x1 x2 gg g nn (sA s60 1037 y60_5 (inar .boolean v75)) (y60_5 + 1)) < (mu_X14_line_w_60 σ x1 x2 gg g nn s60 y60_5))))))
def VC_X14_line_w_60m (σ : rS) (x1 : Int) (x2 : Int) (gg : Nat) (g : Nat → Int → Int) (nn : Int) : Prop := ∀ (s60 : rS) (y60_5 : Int), rWF s60 → rng y60_5 → rR s60 7 = rR σ 7 → rF s60 0 38 = rF σ 0 38 → rF s60 0 42 = rF σ 0 42 → (∀ i, rA s60 1034 i = rA σ 1034 i) → (∀ i, rA s60 1035 i = rA σ 1035 i) → (∀ i, rA s60 1036 i = rA σ 1036 i) → rF s60 (rR σ 7) 7 = rF σ (rR σ 7) 7 → rF s60 (rR σ 7) 12 = rF σ (rR σ 7) 12 → rF s60 (rR σ 7) 38 = rF σ (rR σ 7) 38 → inv_X14_line_w_60 σ x1 x2 gg g nn s60 y60_5 → 0 < (mu_X14_line_w_60 σ x1 x2 gg g nn s60 y60_5)
def VC_X14_line_w_8 (σ : rS) (x1 : Int) (x2 : Int) (gg : Nat) (g : Nat → Int → Int) (nn : Int) (Q : rS → Prop) : Prop := ∀ (s8 : rS) (y8_3 : Int) (y8_4 : Int) (y8_5 : Int), rWF s8 → rng y8_3 → rng y8_4 → rng y8_5 → rR s8 7 = rR σ 7 → rF s8 0 38 = rF σ 0 38 → rF s8 0 42 = rF σ 0 42 → (∀ i, rA s8 1034 i = rA σ 1034 i) → (∀ i, rA s8 1035 i = rA σ 1035 i) → (∀ i, rA s8 1036 i = rA σ 1036 i) → rF s8 (rR σ 7) 7 = rF σ (rR σ 7) 7 → rF s8 (rR σ 7) 12 = rF σ (rR σ 7) 12 → rF s8 (rR σ 7) 38 = rF σ (rR σ 7) 38 → inv_X14_line_w_8 σ x1 x2 gg g nn s8 y8_3 y8_4 y8_5 → (((x2 ≤ y8_5 → ((¬ y8_3 = 1 → (inv_X14_line_w_104 σ x1 x2 gg g nn s8 x1)) ∧ (y8_3 = 1 → ((¬ y8_4 = 0 → (inv_X14_line_w_104 σ x1 x2 gg g nn s8 x1)) ∧ (y8_4 = 0 → (inv_X14_line_w_60 σ x1 x2 gg g nn s8 x1)))))) ∧ (¬ x2 ≤ y8_5 → pre_X14_isLineTag s8 y8_5 ∧ (∀ (v17 : Int), rng v17 → post_X14_isLineTag s8 y8_5 v17 → ((v17 = 0 → pre_X14_isSpace s8 y8_5 ∧ (∀ (v32 : Int), rng v32 → post_X14_isSpace s8 y8_5 v32 → ((¬ v32 = 0 → rng (y8_5 + 1) ∧ (inv_X14_line_w_8 σ x1 x2 gg g nn s8 y8_3 y8_4 (y8_5 + 1) ∧ (mu_X14_line_w_8 σ x1 x2 gg g nn s8 y8_3 y8_4 (y8_5 + 1)) < (mu_X14_line_w_8 σ x1 x2 gg g nn s8 y8_3 y8_4 y8_5))) ∧ (v32 = 0 → rng (y8_4 + 1) ∧ rng (y8_5 + 1) ∧ (inv_X14_line_w_8 σ x1 x2 gg g nn s8 y8_3 (y8_4 + 1) (y8_5 + 1) ∧ (mu_X14_line_w_8 σ x1 x2 gg g nn s8 y8_3 (y8_4 + 1) (y8_5 + 1)) < (mu_X14_line_w_8 σ x1 x2 gg g nn s8 y8_3 y8_4 y8_5)))))) ∧ (¬ v17 = 0 → rng (y8_3 + 1) ∧ rng (y8_5 + 1) ∧ (inv_X14_line_w_8 σ x1 x2 gg g nn s8 (y8_3 + 1) y8_4 (y8_5 + 1) ∧ (mu_X14_line_w_8 σ x1 x2 gg g nn s8 (y8_3 + 1) y8_4 (y8_5 + 1)) < (mu_X14_line_w_8 σ x1 x2 gg g nn s8 y8_3 y8_4 y8_5))))))))
def VC_X14_line_w_8m (σ : rS) (x1 : Int) (x2 : Int) (gg : Nat) (g : Nat → Int → Int) (nn : Int) : Prop := ∀ (s8 : rS) (y8_3 : Int) (y8_4 : Int) (y8_5 : Int), rWF s8 → rng y8_3 → rng y8_4 → rng y8_5 → rR s8 7 = rR σ 7 → rF s8 0 38 = rF σ 0 38 → rF s8 0 42 = rF σ 0 42 → (∀ i, rA s8 1034 i = rA σ 1034 i) → (∀ i, rA s8 1035 i = rA σ 1035 i) → (∀ i, rA s8 1036 i = rA σ 1036 i) → rF s8 (rR σ 7) 7 = rF σ (rR σ 7) 7 → rF s8 (rR σ 7) 12 = rF σ (rR σ 7) 12 → rF s8 (rR σ 7) 38 = rF σ (rR σ 7) 38 → inv_X14_line_w_8 σ x1 x2 gg g nn s8 y8_3 y8_4 y8_5 → 0 < (mu_X14_line_w_8 σ x1 x2 gg g nn s8 y8_3 y8_4 y8_5)
set_option maxHeartbeats 20000000 in
theorem vX14_line_w (σ : rS) (x1 : Int) (x2 : Int) (gg : Nat) (g : Nat → Int → Int) (nn : Int) (hwf : rWF σ) (hx1 : rng x1) (hx2 : rng x2) (hp : pre_X14_line_w σ x1 x2 gg g nn) : VC_X14_line_w σ x1 x2 gg g nn (post_X14_line_w σ x1 x2 gg g nn) := by
  unfold pre_X14_line_w at hp
  obtain ⟨hp_1, hp_2, hp_3, hp_4, hp_5, hp_6, hp_7, hp_8, hp_9, hp_10, hp_11, hp_12, hp_13, hp_14, hp_15⟩ := hp
  unfold rng at hx1 hx2
  subst hp_1
  have R0 := RG.rf7 hp_2 hp_14
  unfold VC_X14_line_w
  refine ⟨(by (all_goals (repeat' (first | with_reducible intro _ | with_reducible apply And.intro))); all_goals (first | assumption | trivial | omega | (have zz_ := fz_z (by assumption); omega) | (split <;> omega) | (exact SPn.z) | (exact SPn.s (by assumption) (by rw [← (show ∀ i, rA s104 1034 i = rA σ 1034 i by assumption) y104_5]; omega)) | (exact WNp.gs (by assumption) (by assumption) (by assumption)) | (exact WNp.gn (by assumption) (Or.inl (by assumption))) | (exact WNp.gn (by assumption) (by omega)) | (exact GS.ln (by assumption)) | (exact GS.c4w hp_2 (by assumption) ⟨by omega, by omega⟩ ⟨rF s104 (rR σ 7) 9, y104_5 - x1, by omega, by omega, by omega, by omega, by omega⟩) | (exact RG.t4 hp_2 (by assumption) (by omega)) | done)), ?_⟩
  exact (by (try simp only [inv_X14_line_w_8]); (all_goals (repeat' (first | with_reducible intro _ | with_reducible apply And.intro))); all_goals (first | assumption | trivial | omega | (have zz_ := fz_z (by assumption); omega) | (split <;> omega) | (exact SPn.z) | (exact SPn.s (by assumption) (by rw [← (show ∀ i, rA s104 1034 i = rA σ 1034 i by assumption) y104_5]; omega)) | (exact WNp.gs (by assumption) (by assumption) (by assumption)) | (exact WNp.gn (by assumption) (Or.inl (by assumption))) | (exact WNp.gn (by assumption) (by omega)) | (exact GS.ln (by assumption)) | (exact GS.c4w hp_2 (by assumption) ⟨by omega, by omega⟩ ⟨rF s104 (rR σ 7) 9, y104_5 - x1, by omega, by omega, by omega, by omega, by omega⟩) | (exact RG.t4 hp_2 (by assumption) (by omega)) | done))
set_option maxHeartbeats 20000000 in
theorem vX14_line_w_206 (σ : rS) (x1 : Int) (x2 : Int) (gg : Nat) (g : Nat → Int → Int) (nn : Int) (hwf : rWF σ) (hx1 : rng x1) (hx2 : rng x2) (hp : pre_X14_line_w σ x1 x2 gg g nn) : VC_X14_line_w_206 σ x1 x2 gg g nn (post_X14_line_w σ x1 x2 gg g nn) := by
  unfold pre_X14_line_w at hp
  obtain ⟨hp_1, hp_2, hp_3, hp_4, hp_5, hp_6, hp_7, hp_8, hp_9, hp_10, hp_11, hp_12, hp_13, hp_14, hp_15⟩ := hp
  unfold rng at hx1 hx2
  subst hp_1
  have R0 := RG.rf7 hp_2 hp_14
  unfold VC_X14_line_w_206
  intro s206 y206_5 y206_8 Ws206 hy206_5 hy206_8 e206_0 e206_1 e206_2 e206_3 e206_4 e206_5 e206_6 e206_7 e206_8 I206
  have Ks206 : rR s206 7 = rR σ 7 := by omega
  unfold inv_X14_line_w_206 at I206
  obtain ⟨I206_1, I206_2, I206_3, I206_4, I206_5, I206_6, I206_7, I206_8, I206_9⟩ := I206
  (try simp only [Ks206] at I206_1 I206_2 I206_3 I206_4 I206_5 I206_6 I206_7 I206_8 I206_9)
  refine ⟨fun c210 => ?_, fun c210 => ?_⟩
  · exact (by (try simp only [post_X14_line_w, Ks206]); (all_goals (repeat' (first | with_reducible intro _ | with_reducible apply And.intro))); all_goals (first | assumption | trivial | omega | (have zz_ := fz_z (by assumption); omega) | (split <;> omega) | (exact SPn.z) | (exact SPn.s (by assumption) (by rw [← (show ∀ i, rA s104 1034 i = rA σ 1034 i by assumption) y104_5]; omega)) | (exact WNp.gs (by assumption) (by assumption) (by assumption)) | (exact WNp.gn (by assumption) (Or.inl (by assumption))) | (exact WNp.gn (by assumption) (by omega)) | (exact GS.ln (by assumption)) | (exact GS.c4w hp_2 (by assumption) ⟨by omega, by omega⟩ ⟨rF s104 (rR σ 7) 9, y104_5 - x1, by omega, by omega, by omega, by omega, by omega⟩) | (exact RG.t4 hp_2 (by assumption) (by omega)) | done))
  · have sp_ : rA s206 1034 y206_8 = 1 := by rw [(show ∀ i, rA s206 1034 i = rA σ 1034 i by assumption) y206_8]; exact I206_6 y206_8 (by omega) (by omega)
    refine ⟨(by (try simp only [Ks206]); (all_goals (repeat' (first | with_reducible intro _ | with_reducible apply And.intro))); all_goals (first | assumption | trivial | omega | (have zz_ := fz_z (by assumption); omega) | (split <;> omega) | (exact SPn.z) | (exact SPn.s (by assumption) (by rw [← (show ∀ i, rA s104 1034 i = rA σ 1034 i by assumption) y104_5]; omega)) | (exact WNp.gs (by assumption) (by assumption) (by assumption)) | (exact WNp.gn (by assumption) (Or.inl (by assumption))) | (exact WNp.gn (by assumption) (by omega)) | (exact GS.ln (by assumption)) | (exact GS.c4w hp_2 (by assumption) ⟨by omega, by omega⟩ ⟨rF s104 (rR σ 7) 9, y104_5 - x1, by omega, by omega, by omega, by omega, by omega⟩) | (exact RG.t4 hp_2 (by assumption) (by omega)) | done)), ?_⟩
    intro hr_; unfold rng at hr_
    refine ⟨(by (try simp only [reduceIte, and_true, true_and, and_false, false_and, and_self, Nat.reduceEqDiff, fz_sA, rF_sA, rA_sA, rR_sA, rNMp_a37, PNp_a37, GS_a37, OP_a37, NR_a37, LI_a37, tr_a37, RG_la37, RG_ra37, TPRp_sA37, VMp_sA37, KYp_sA37, PPp_sA37, WFp_sA37, CCp_sA37, Ks206]); (all_goals (repeat' (first | with_reducible intro _ | with_reducible apply And.intro))); all_goals (first | assumption | trivial | omega | (have zz_ := fz_z (by assumption); omega) | (split <;> omega) | (exact SPn.z) | (exact SPn.s (by assumption) (by rw [← (show ∀ i, rA s104 1034 i = rA σ 1034 i by assumption) y104_5]; omega)) | (exact WNp.gs (by assumption) (by assumption) (by assumption)) | (exact WNp.gn (by assumption) (Or.inl (by assumption))) | (exact WNp.gn (by assumption) (by omega)) | (exact GS.ln (by assumption)) | (exact GS.c4w hp_2 (by assumption) ⟨by omega, by omega⟩ ⟨rF s104 (rR σ 7) 9, y104_5 - x1, by omega, by omega, by omega, by omega, by omega⟩) | (exact RG.t4 hp_2 (by assumption) (by omega)) | done)), ?_⟩
    intro hr_; unfold rng at hr_
    refine ⟨(by (try simp only [reduceIte, and_true, true_and, and_false, false_and, and_self, Nat.reduceEqDiff, fz_sA, rF_sA, rA_sA, rR_sA, rNMp_a37, PNp_a37, GS_a37, OP_a37, NR_a37, LI_a37, tr_a37, RG_la37, RG_ra37, TPRp_sA37, VMp_sA37, KYp_sA37, PPp_sA37, WFp_sA37, CCp_sA37, Ks206]); (all_goals (repeat' (first | with_reducible intro _ | with_reducible apply And.intro))); all_goals (first | assumption | trivial | omega | (have zz_ := fz_z (by assumption); omega) | (split <;> omega) | (exact SPn.z) | (exact SPn.s (by assumption) (by rw [← (show ∀ i, rA s104 1034 i = rA σ 1034 i by assumption) y104_5]; omega)) | (exact WNp.gs (by assumption) (by assumption) (by assumption)) | (exact WNp.gn (by assumption) (Or.inl (by assumption))) | (exact WNp.gn (by assumption) (by omega)) | (exact GS.ln (by assumption)) | (exact GS.c4w hp_2 (by assumption) ⟨by omega, by omega⟩ ⟨rF s104 (rR σ 7) 9, y104_5 - x1, by omega, by omega, by omega, by omega, by omega⟩) | (exact RG.t4 hp_2 (by assumption) (by omega)) | done)), ?_⟩
    refine ⟨(by (try simp only [rng, reduceIte, and_true, true_and, and_false, false_and, and_self, Nat.reduceEqDiff, fz_sA, rF_sA, rA_sA, rR_sA, rNMp_a37, PNp_a37, GS_a37, OP_a37, NR_a37, LI_a37, tr_a37, RG_la37, RG_ra37, TPRp_sA37, VMp_sA37, KYp_sA37, PPp_sA37, WFp_sA37, CCp_sA37, tr_g8, RG_rg8, RG_lg8, TPRp_gA8, WNp_gA8, VMp_gA8, KYp_gA8, PPp_gA8, WFp_gA8, CCp_gA8, Ks206]); (all_goals (repeat' (first | with_reducible intro _ | with_reducible apply And.intro))); all_goals (first | assumption | trivial | omega | (have zz_ := fz_z (by assumption); omega) | (split <;> omega) | (exact SPn.z) | (exact SPn.s (by assumption) (by rw [← (show ∀ i, rA s104 1034 i = rA σ 1034 i by assumption) y104_5]; omega)) | (exact WNp.gs (by assumption) (by assumption) (by assumption)) | (exact WNp.gn (by assumption) (Or.inl (by assumption))) | (exact WNp.gn (by assumption) (by omega)) | (exact GS.ln (by assumption)) | (exact GS.c4w hp_2 (by assumption) ⟨by omega, by omega⟩ ⟨rF s104 (rR σ 7) 9, y104_5 - x1, by omega, by omega, by omega, by omega, by omega⟩) | (exact RG.t4 hp_2 (by assumption) (by omega)) | done)), ?_⟩
    refine ⟨(by (try simp only [rng, reduceIte, and_true, true_and, and_false, false_and, and_self, Nat.reduceEqDiff, fz_sA, rF_sA, rA_sA, rR_sA, rNMp_a37, PNp_a37, GS_a37, OP_a37, NR_a37, LI_a37, tr_a37, RG_la37, RG_ra37, TPRp_sA37, VMp_sA37, KYp_sA37, PPp_sA37, WFp_sA37, CCp_sA37, tr_g8, RG_rg8, RG_lg8, TPRp_gA8, WNp_gA8, VMp_gA8, KYp_gA8, PPp_gA8, WFp_gA8, CCp_gA8, fz_sF9, rF_sF, rA_sF, rR_sF, tr_sF, TPRp_sF9, WNp_sF9, VMp_sF9, KYp_sF9, PPp_sF9, WFp_sF9, CCp_sF9, RG_lG9, RG_rG9, Ks206]); (all_goals (repeat' (first | with_reducible intro _ | with_reducible apply And.intro))); all_goals (first | assumption | trivial | omega | (have zz_ := fz_z (by assumption); omega) | (split <;> omega) | (exact SPn.z) | (exact SPn.s (by assumption) (by rw [← (show ∀ i, rA s104 1034 i = rA σ 1034 i by assumption) y104_5]; omega)) | (exact WNp.gs (by assumption) (by assumption) (by assumption)) | (exact WNp.gn (by assumption) (Or.inl (by assumption))) | (exact WNp.gn (by assumption) (by omega)) | (exact GS.ln (by assumption)) | (exact GS.c4w hp_2 (by assumption) ⟨by omega, by omega⟩ ⟨rF s104 (rR σ 7) 9, y104_5 - x1, by omega, by omega, by omega, by omega, by omega⟩) | (exact RG.t4 hp_2 (by assumption) (by omega)) | done)), ?_⟩
    exact (by (try simp only [inv_X14_line_w_206, mu_X14_line_w_206, mu_X14_line_w_206, reduceIte, and_true, true_and, and_false, false_and, and_self, Nat.reduceEqDiff, fz_sA, rF_sA, rA_sA, rR_sA, rNMp_a37, PNp_a37, GS_a37, OP_a37, NR_a37, LI_a37, tr_a37, RG_la37, RG_ra37, TPRp_sA37, VMp_sA37, KYp_sA37, PPp_sA37, WFp_sA37, CCp_sA37, tr_g8, RG_rg8, RG_lg8, TPRp_gA8, WNp_gA8, VMp_gA8, KYp_gA8, PPp_gA8, WFp_gA8, CCp_gA8, fz_sF9, rF_sF, rA_sF, rR_sF, tr_sF, TPRp_sF9, WNp_sF9, VMp_sF9, KYp_sF9, PPp_sF9, WFp_sF9, CCp_sF9, RG_lG9, RG_rG9, Ks206]); (all_goals (repeat' (first | with_reducible intro _ | with_reducible apply And.intro))); all_goals (first | assumption | trivial | omega | (have zz_ := fz_z (by assumption); omega) | (split <;> omega) | (exact SPn.z) | (exact SPn.s (by assumption) (by rw [← (show ∀ i, rA s104 1034 i = rA σ 1034 i by assumption) y104_5]; omega)) | (exact WNp.gs (by assumption) (by assumption) (by assumption)) | (exact WNp.gn (by assumption) (Or.inl (by assumption))) | (exact WNp.gn (by assumption) (by omega)) | (exact GS.ln (by assumption)) | (exact GS.c4w hp_2 (by assumption) ⟨by omega, by omega⟩ ⟨rF s104 (rR σ 7) 9, y104_5 - x1, by omega, by omega, by omega, by omega, by omega⟩) | (exact RG.t4 hp_2 (by assumption) (by omega)) | done))
set_option maxHeartbeats 20000000 in
theorem vX14_line_w_206m (σ : rS) (x1 : Int) (x2 : Int) (gg : Nat) (g : Nat → Int → Int) (nn : Int) (hwf : rWF σ) (hx1 : rng x1) (hx2 : rng x2) (hp : pre_X14_line_w σ x1 x2 gg g nn) : VC_X14_line_w_206m σ x1 x2 gg g nn := by
  unfold pre_X14_line_w at hp
  obtain ⟨hp_1, hp_2, hp_3, hp_4, hp_5, hp_6, hp_7, hp_8, hp_9, hp_10, hp_11, hp_12, hp_13, hp_14, hp_15⟩ := hp
  unfold rng at hx1 hx2
  subst hp_1
  have R0 := RG.rf7 hp_2 hp_14
  unfold VC_X14_line_w_206m
  (try simp only [inv_X14_line_w_206, mu_X14_line_w_206]); (all_goals (repeat' (first | with_reducible intro _ | with_reducible apply And.intro))); all_goals (first | assumption | omega | grind (splits := 20))
set_option maxHeartbeats 20000000 in
theorem vX14_line_w_104 (σ : rS) (x1 : Int) (x2 : Int) (gg : Nat) (g : Nat → Int → Int) (nn : Int) (hwf : rWF σ) (hx1 : rng x1) (hx2 : rng x2) (hp : pre_X14_line_w σ x1 x2 gg g nn) : VC_X14_line_w_104 σ x1 x2 gg g nn (post_X14_line_w σ x1 x2 gg g nn) := by
  unfold pre_X14_line_w at hp
  obtain ⟨hp_1, hp_2, hp_3, hp_4, hp_5, hp_6, hp_7, hp_8, hp_9, hp_10, hp_11, hp_12, hp_13, hp_14, hp_15⟩ := hp
  unfold rng at hx1 hx2
  subst hp_1
  have R0 := RG.rf7 hp_2 hp_14
  unfold VC_X14_line_w_104
  intro s104 y104_5 Ws104 hy104_5 e104_0 e104_1 e104_2 e104_3 e104_4 e104_5 e104_6 e104_7 e104_8 I104
  have Ks104 : rR s104 7 = rR σ 7 := by omega
  unfold inv_X14_line_w_104 at I104
  obtain ⟨I104_1, I104_2, I104_3, I104_4, I104_5, I104_6, I104_7⟩ := I104
  (try simp only [Ks104] at I104_1 I104_2 I104_3 I104_4 I104_5 I104_6 I104_7)
  refine ⟨fun c107 => ?_, fun c107 => ?_⟩
  · refine ⟨fun c128 => ?_, fun c128 => ?_⟩
    · exact (by (try simp only [post_X14_line_w, Ks104]); (all_goals (repeat' (first | with_reducible intro _ | with_reducible apply And.intro))); all_goals (first | assumption | trivial | omega | (have zz_ := fz_z (by assumption); omega) | (split <;> omega) | (exact SPn.z) | (exact SPn.s (by assumption) (by rw [← (show ∀ i, rA s104 1034 i = rA σ 1034 i by assumption) y104_5]; omega)) | (exact WNp.gs (by assumption) (by assumption) (by assumption)) | (exact WNp.gn (by assumption) (Or.inl (by assumption))) | (exact WNp.gn (by assumption) (by omega)) | (exact GS.ln (by assumption)) | (exact GS.c4w hp_2 (by assumption) ⟨by omega, by omega⟩ ⟨rF s104 (rR σ 7) 9, y104_5 - x1, by omega, by omega, by omega, by omega, by omega⟩) | (exact RG.t4 hp_2 (by assumption) (by omega)) | done))
    · refine ⟨fun c134 => ?_, fun c134 => ?_⟩
      · refine ⟨(by (try simp only [Ks104]); (all_goals (repeat' (first | with_reducible intro _ | with_reducible apply And.intro))); all_goals (first | assumption | trivial | omega | (have zz_ := fz_z (by assumption); omega) | (split <;> omega) | (exact SPn.z) | (exact SPn.s (by assumption) (by rw [← (show ∀ i, rA s104 1034 i = rA σ 1034 i by assumption) y104_5]; omega)) | (exact WNp.gs (by assumption) (by assumption) (by assumption)) | (exact WNp.gn (by assumption) (Or.inl (by assumption))) | (exact WNp.gn (by assumption) (by omega)) | (exact GS.ln (by assumption)) | (exact GS.c4w hp_2 (by assumption) ⟨by omega, by omega⟩ ⟨rF s104 (rR σ 7) 9, y104_5 - x1, by omega, by omega, by omega, by omega, by omega⟩) | (exact RG.t4 hp_2 (by assumption) (by omega)) | done)), ?_⟩
        intro hr_; unfold rng at hr_
        refine ⟨fun c150 => ?_, fun c150 => ?_⟩
        · have wl_ := hp_12 y104_5 (by omega) (by omega) (by have e_ := (show ∀ i, rA s104 1034 i = rA σ 1034 i by assumption) y104_5; omega)
          rw [← (show ∀ i, rA s104 1035 i = rA σ 1035 i by assumption) y104_5] at wl_
          obtain ⟨wl1, wl2, wl3, wl4, wl5⟩ := wl_
          refine ⟨(by (try simp only [Ks104]); (all_goals (repeat' (first | with_reducible intro _ | with_reducible apply And.intro))); all_goals (first | assumption | trivial | omega | (have zz_ := fz_z (by assumption); omega) | (split <;> omega) | (exact SPn.z) | (exact SPn.s (by assumption) (by rw [← (show ∀ i, rA s104 1034 i = rA σ 1034 i by assumption) y104_5]; omega)) | (exact WNp.gs (by assumption) (by assumption) (by assumption)) | (exact WNp.gn (by assumption) (Or.inl (by assumption))) | (exact WNp.gn (by assumption) (by omega)) | (exact GS.ln (by assumption)) | (exact GS.c4w hp_2 (by assumption) ⟨by omega, by omega⟩ ⟨rF s104 (rR σ 7) 9, y104_5 - x1, by omega, by omega, by omega, by omega, by omega⟩) | (exact RG.t4 hp_2 (by assumption) (by omega)) | done)), ?_⟩
          intro hr_; unfold rng at hr_
          intro hr_; unfold rng at hr_
          refine ⟨(by (try simp only [Ks104]); (all_goals (repeat' (first | with_reducible intro _ | with_reducible apply And.intro))); all_goals (first | assumption | trivial | omega | (have zz_ := fz_z (by assumption); omega) | (split <;> omega) | (exact SPn.z) | (exact SPn.s (by assumption) (by rw [← (show ∀ i, rA s104 1034 i = rA σ 1034 i by assumption) y104_5]; omega)) | (exact WNp.gs (by assumption) (by assumption) (by assumption)) | (exact WNp.gn (by assumption) (Or.inl (by assumption))) | (exact WNp.gn (by assumption) (by omega)) | (exact GS.ln (by assumption)) | (exact GS.c4w hp_2 (by assumption) ⟨by omega, by omega⟩ ⟨rF s104 (rR σ 7) 9, y104_5 - x1, by omega, by omega, by omega, by omega, by omega⟩) | (exact RG.t4 hp_2 (by assumption) (by omega)) | done)), ?_⟩
          refine ⟨(by (try simp only [rng, Ks104]); (all_goals (repeat' (first | with_reducible intro _ | with_reducible apply And.intro))); all_goals (first | assumption | trivial | omega | (have zz_ := fz_z (by assumption); omega) | (split <;> omega) | (exact SPn.z) | (exact SPn.s (by assumption) (by rw [← (show ∀ i, rA s104 1034 i = rA σ 1034 i by assumption) y104_5]; omega)) | (exact WNp.gs (by assumption) (by assumption) (by assumption)) | (exact WNp.gn (by assumption) (Or.inl (by assumption))) | (exact WNp.gn (by assumption) (by omega)) | (exact GS.ln (by assumption)) | (exact GS.c4w hp_2 (by assumption) ⟨by omega, by omega⟩ ⟨rF s104 (rR σ 7) 9, y104_5 - x1, by omega, by omega, by omega, by omega, by omega⟩) | (exact RG.t4 hp_2 (by assumption) (by omega)) | done)), ?_⟩
          exact (by (try simp only [inv_X14_line_w_206, reduceIte, and_true, true_and, and_false, false_and, and_self, Nat.reduceEqDiff, fz_sA, rF_sA, rA_sA, rR_sA, rF_sT, rR_sT, sT_sF, fz_sT, rA_sT26 hp_2, rA_sT27 hp_2, rA_sT34 hp_2, rA_sT35 hp_2, rA_sT36 hp_2, rA_sT37 hp_2, rA_sT40 hp_2, TPRp_sT hp_2, WNp_sT hp_2, VMp_sT hp_2, KYp_sT hp_2, PPp_sT hp_2, WFp_sT hp_2, CCp_sT hp_2, rNMp_sT4, PNp_sT4, Ks104]); (all_goals (repeat' (first | with_reducible intro _ | with_reducible apply And.intro))); all_goals (first | assumption | trivial | omega | (have zz_ := fz_z (by assumption); omega) | (split <;> omega) | (exact SPn.z) | (exact SPn.s (by assumption) (by rw [← (show ∀ i, rA s104 1034 i = rA σ 1034 i by assumption) y104_5]; omega)) | (exact WNp.gs (by assumption) (by assumption) (by assumption)) | (exact WNp.gn (by assumption) (Or.inl (by assumption))) | (exact WNp.gn (by assumption) (by omega)) | (exact GS.ln (by assumption)) | (exact GS.c4w hp_2 (by assumption) ⟨by omega, by omega⟩ ⟨rF s104 (rR σ 7) 9, y104_5 - x1, by omega, by omega, by omega, by omega, by omega⟩) | (exact RG.t4 hp_2 (by assumption) (by omega)) | done))
        · refine ⟨fun c157 => ?_, fun c157 => ?_⟩
          · have wl_ := hp_12 y104_5 (by omega) (by omega) (by have e_ := (show ∀ i, rA s104 1034 i = rA σ 1034 i by assumption) y104_5; omega)
            rw [← (show ∀ i, rA s104 1035 i = rA σ 1035 i by assumption) y104_5] at wl_
            obtain ⟨wl1, wl2, wl3, wl4, wl5⟩ := wl_
            refine ⟨(by (try simp only [Ks104]); (all_goals (repeat' (first | with_reducible intro _ | with_reducible apply And.intro))); all_goals (first | assumption | trivial | omega | (have zz_ := fz_z (by assumption); omega) | (split <;> omega) | (exact SPn.z) | (exact SPn.s (by assumption) (by rw [← (show ∀ i, rA s104 1034 i = rA σ 1034 i by assumption) y104_5]; omega)) | (exact WNp.gs (by assumption) (by assumption) (by assumption)) | (exact WNp.gn (by assumption) (Or.inl (by assumption))) | (exact WNp.gn (by assumption) (by omega)) | (exact GS.ln (by assumption)) | (exact GS.c4w hp_2 (by assumption) ⟨by omega, by omega⟩ ⟨rF s104 (rR σ 7) 9, y104_5 - x1, by omega, by omega, by omega, by omega, by omega⟩) | (exact RG.t4 hp_2 (by assumption) (by omega)) | done)), ?_⟩
            intro hr_; unfold rng at hr_
            intro hr_; unfold rng at hr_
            refine ⟨(by (try simp only [Ks104]); (all_goals (repeat' (first | with_reducible intro _ | with_reducible apply And.intro))); all_goals (first | assumption | trivial | omega | (have zz_ := fz_z (by assumption); omega) | (split <;> omega) | (exact SPn.z) | (exact SPn.s (by assumption) (by rw [← (show ∀ i, rA s104 1034 i = rA σ 1034 i by assumption) y104_5]; omega)) | (exact WNp.gs (by assumption) (by assumption) (by assumption)) | (exact WNp.gn (by assumption) (Or.inl (by assumption))) | (exact WNp.gn (by assumption) (by omega)) | (exact GS.ln (by assumption)) | (exact GS.c4w hp_2 (by assumption) ⟨by omega, by omega⟩ ⟨rF s104 (rR σ 7) 9, y104_5 - x1, by omega, by omega, by omega, by omega, by omega⟩) | (exact RG.t4 hp_2 (by assumption) (by omega)) | done)), ?_⟩
            refine ⟨(by (try simp only [rng, Ks104]); (all_goals (repeat' (first | with_reducible intro _ | with_reducible apply And.intro))); all_goals (first | assumption | trivial | omega | (have zz_ := fz_z (by assumption); omega) | (split <;> omega) | (exact SPn.z) | (exact SPn.s (by assumption) (by rw [← (show ∀ i, rA s104 1034 i = rA σ 1034 i by assumption) y104_5]; omega)) | (exact WNp.gs (by assumption) (by assumption) (by assumption)) | (exact WNp.gn (by assumption) (Or.inl (by assumption))) | (exact WNp.gn (by assumption) (by omega)) | (exact GS.ln (by assumption)) | (exact GS.c4w hp_2 (by assumption) ⟨by omega, by omega⟩ ⟨rF s104 (rR σ 7) 9, y104_5 - x1, by omega, by omega, by omega, by omega, by omega⟩) | (exact RG.t4 hp_2 (by assumption) (by omega)) | done)), ?_⟩
            exact (by (try simp only [inv_X14_line_w_206, reduceIte, and_true, true_and, and_false, false_and, and_self, Nat.reduceEqDiff, fz_sA, rF_sA, rA_sA, rR_sA, rF_sT, rR_sT, sT_sF, fz_sT, rA_sT26 hp_2, rA_sT27 hp_2, rA_sT34 hp_2, rA_sT35 hp_2, rA_sT36 hp_2, rA_sT37 hp_2, rA_sT40 hp_2, TPRp_sT hp_2, WNp_sT hp_2, VMp_sT hp_2, KYp_sT hp_2, PPp_sT hp_2, WFp_sT hp_2, CCp_sT hp_2, rNMp_sT4, PNp_sT4, Ks104]); (all_goals (repeat' (first | with_reducible intro _ | with_reducible apply And.intro))); all_goals (first | assumption | trivial | omega | (have zz_ := fz_z (by assumption); omega) | (split <;> omega) | (exact SPn.z) | (exact SPn.s (by assumption) (by rw [← (show ∀ i, rA s104 1034 i = rA σ 1034 i by assumption) y104_5]; omega)) | (exact WNp.gs (by assumption) (by assumption) (by assumption)) | (exact WNp.gn (by assumption) (Or.inl (by assumption))) | (exact WNp.gn (by assumption) (by omega)) | (exact GS.ln (by assumption)) | (exact GS.c4w hp_2 (by assumption) ⟨by omega, by omega⟩ ⟨rF s104 (rR σ 7) 9, y104_5 - x1, by omega, by omega, by omega, by omega, by omega⟩) | (exact RG.t4 hp_2 (by assumption) (by omega)) | done))
          · refine ⟨fun c164 => ?_, fun c164 => ?_⟩
            · have wl_ := hp_12 y104_5 (by omega) (by omega) (by have e_ := (show ∀ i, rA s104 1034 i = rA σ 1034 i by assumption) y104_5; omega)
              rw [← (show ∀ i, rA s104 1035 i = rA σ 1035 i by assumption) y104_5] at wl_
              obtain ⟨wl1, wl2, wl3, wl4, wl5⟩ := wl_
              refine ⟨(by (try simp only [Ks104]); (all_goals (repeat' (first | with_reducible intro _ | with_reducible apply And.intro))); all_goals (first | assumption | trivial | omega | (have zz_ := fz_z (by assumption); omega) | (split <;> omega) | (exact SPn.z) | (exact SPn.s (by assumption) (by rw [← (show ∀ i, rA s104 1034 i = rA σ 1034 i by assumption) y104_5]; omega)) | (exact WNp.gs (by assumption) (by assumption) (by assumption)) | (exact WNp.gn (by assumption) (Or.inl (by assumption))) | (exact WNp.gn (by assumption) (by omega)) | (exact GS.ln (by assumption)) | (exact GS.c4w hp_2 (by assumption) ⟨by omega, by omega⟩ ⟨rF s104 (rR σ 7) 9, y104_5 - x1, by omega, by omega, by omega, by omega, by omega⟩) | (exact RG.t4 hp_2 (by assumption) (by omega)) | done)), ?_⟩
              intro hr_; unfold rng at hr_
              intro hr_; unfold rng at hr_
              refine ⟨(by (try simp only [Ks104]); (all_goals (repeat' (first | with_reducible intro _ | with_reducible apply And.intro))); all_goals (first | assumption | trivial | omega | (have zz_ := fz_z (by assumption); omega) | (split <;> omega) | (exact SPn.z) | (exact SPn.s (by assumption) (by rw [← (show ∀ i, rA s104 1034 i = rA σ 1034 i by assumption) y104_5]; omega)) | (exact WNp.gs (by assumption) (by assumption) (by assumption)) | (exact WNp.gn (by assumption) (Or.inl (by assumption))) | (exact WNp.gn (by assumption) (by omega)) | (exact GS.ln (by assumption)) | (exact GS.c4w hp_2 (by assumption) ⟨by omega, by omega⟩ ⟨rF s104 (rR σ 7) 9, y104_5 - x1, by omega, by omega, by omega, by omega, by omega⟩) | (exact RG.t4 hp_2 (by assumption) (by omega)) | done)), ?_⟩
              refine ⟨(by (try simp only [rng, Ks104]); (all_goals (repeat' (first | with_reducible intro _ | with_reducible apply And.intro))); all_goals (first | assumption | trivial | omega | (have zz_ := fz_z (by assumption); omega) | (split <;> omega) | (exact SPn.z) | (exact SPn.s (by assumption) (by rw [← (show ∀ i, rA s104 1034 i = rA σ 1034 i by assumption) y104_5]; omega)) | (exact WNp.gs (by assumption) (by assumption) (by assumption)) | (exact WNp.gn (by assumption) (Or.inl (by assumption))) | (exact WNp.gn (by assumption) (by omega)) | (exact GS.ln (by assumption)) | (exact GS.c4w hp_2 (by assumption) ⟨by omega, by omega⟩ ⟨rF s104 (rR σ 7) 9, y104_5 - x1, by omega, by omega, by omega, by omega, by omega⟩) | (exact RG.t4 hp_2 (by assumption) (by omega)) | done)), ?_⟩
              exact (by (try simp only [inv_X14_line_w_206, reduceIte, and_true, true_and, and_false, false_and, and_self, Nat.reduceEqDiff, fz_sA, rF_sA, rA_sA, rR_sA, rF_sT, rR_sT, sT_sF, fz_sT, rA_sT26 hp_2, rA_sT27 hp_2, rA_sT34 hp_2, rA_sT35 hp_2, rA_sT36 hp_2, rA_sT37 hp_2, rA_sT40 hp_2, TPRp_sT hp_2, WNp_sT hp_2, VMp_sT hp_2, KYp_sT hp_2, PPp_sT hp_2, WFp_sT hp_2, CCp_sT hp_2, rNMp_sT4, PNp_sT4, Ks104]); (all_goals (repeat' (first | with_reducible intro _ | with_reducible apply And.intro))); all_goals (first | assumption | trivial | omega | (have zz_ := fz_z (by assumption); omega) | (split <;> omega) | (exact SPn.z) | (exact SPn.s (by assumption) (by rw [← (show ∀ i, rA s104 1034 i = rA σ 1034 i by assumption) y104_5]; omega)) | (exact WNp.gs (by assumption) (by assumption) (by assumption)) | (exact WNp.gn (by assumption) (Or.inl (by assumption))) | (exact WNp.gn (by assumption) (by omega)) | (exact GS.ln (by assumption)) | (exact GS.c4w hp_2 (by assumption) ⟨by omega, by omega⟩ ⟨rF s104 (rR σ 7) 9, y104_5 - x1, by omega, by omega, by omega, by omega, by omega⟩) | (exact RG.t4 hp_2 (by assumption) (by omega)) | done))
            · exact (by (try simp only [post_X14_line_w, Ks104]); (all_goals (repeat' (first | with_reducible intro _ | with_reducible apply And.intro))); all_goals (first | assumption | trivial | omega | (have zz_ := fz_z (by assumption); omega) | (split <;> omega) | (exact SPn.z) | (exact SPn.s (by assumption) (by rw [← (show ∀ i, rA s104 1034 i = rA σ 1034 i by assumption) y104_5]; omega)) | (exact WNp.gs (by assumption) (by assumption) (by assumption)) | (exact WNp.gn (by assumption) (Or.inl (by assumption))) | (exact WNp.gn (by assumption) (by omega)) | (exact GS.ln (by assumption)) | (exact GS.c4w hp_2 (by assumption) ⟨by omega, by omega⟩ ⟨rF s104 (rR σ 7) 9, y104_5 - x1, by omega, by omega, by omega, by omega, by omega⟩) | (exact RG.t4 hp_2 (by assumption) (by omega)) | done))
      · exact (by (try simp only [post_X14_line_w, Ks104]); (all_goals (repeat' (first | with_reducible intro _ | with_reducible apply And.intro))); all_goals (first | assumption | trivial | omega | (have zz_ := fz_z (by assumption); omega) | (split <;> omega) | (exact SPn.z) | (exact SPn.s (by assumption) (by rw [← (show ∀ i, rA s104 1034 i = rA σ 1034 i by assumption) y104_5]; omega)) | (exact WNp.gs (by assumption) (by assumption) (by assumption)) | (exact WNp.gn (by assumption) (Or.inl (by assumption))) | (exact WNp.gn (by assumption) (by omega)) | (exact GS.ln (by assumption)) | (exact GS.c4w hp_2 (by assumption) ⟨by omega, by omega⟩ ⟨rF s104 (rR σ 7) 9, y104_5 - x1, by omega, by omega, by omega, by omega, by omega⟩) | (exact RG.t4 hp_2 (by assumption) (by omega)) | done))
  · refine ⟨(by (try simp only [pre_X14_isSpace, Ks104]); (all_goals (repeat' (first | with_reducible intro _ | with_reducible apply And.intro))); all_goals (first | assumption | trivial | omega | (have zz_ := fz_z (by assumption); omega) | (split <;> omega) | (exact SPn.z) | (exact SPn.s (by assumption) (by rw [← (show ∀ i, rA s104 1034 i = rA σ 1034 i by assumption) y104_5]; omega)) | (exact WNp.gs (by assumption) (by assumption) (by assumption)) | (exact WNp.gn (by assumption) (Or.inl (by assumption))) | (exact WNp.gn (by assumption) (by omega)) | (exact GS.ln (by assumption)) | (exact GS.c4w hp_2 (by assumption) ⟨by omega, by omega⟩ ⟨rF s104 (rR σ 7) 9, y104_5 - x1, by omega, by omega, by omega, by omega, by omega⟩) | (exact RG.t4 hp_2 (by assumption) (by omega)) | done)), ?_⟩
    intro v113 hv113 q113
    unfold rng at hv113
    unfold post_X14_isSpace at q113
    obtain ⟨q113_1, q113_2⟩ := q113
    (try simp only [Ks104] at q113_1 q113_2)
    refine ⟨fun c116 => ?_, fun c116 => ?_⟩
    · refine ⟨fun c128 => ?_, fun c128 => ?_⟩
      · exact (by (try simp only [post_X14_line_w, Ks104]); (all_goals (repeat' (first | with_reducible intro _ | with_reducible apply And.intro))); all_goals (first | assumption | trivial | omega | (have zz_ := fz_z (by assumption); omega) | (split <;> omega) | (exact SPn.z) | (exact SPn.s (by assumption) (by rw [← (show ∀ i, rA s104 1034 i = rA σ 1034 i by assumption) y104_5]; omega)) | (exact WNp.gs (by assumption) (by assumption) (by assumption)) | (exact WNp.gn (by assumption) (Or.inl (by assumption))) | (exact WNp.gn (by assumption) (by omega)) | (exact GS.ln (by assumption)) | (exact GS.c4w hp_2 (by assumption) ⟨by omega, by omega⟩ ⟨rF s104 (rR σ 7) 9, y104_5 - x1, by omega, by omega, by omega, by omega, by omega⟩) | (exact RG.t4 hp_2 (by assumption) (by omega)) | done))
      · refine ⟨fun c134 => ?_, fun c134 => ?_⟩
        · refine ⟨(by (try simp only [Ks104]); (all_goals (repeat' (first | with_reducible intro _ | with_reducible apply And.intro))); all_goals (first | assumption | trivial | omega | (have zz_ := fz_z (by assumption); omega) | (split <;> omega) | (exact SPn.z) | (exact SPn.s (by assumption) (by rw [← (show ∀ i, rA s104 1034 i = rA σ 1034 i by assumption) y104_5]; omega)) | (exact WNp.gs (by assumption) (by assumption) (by assumption)) | (exact WNp.gn (by assumption) (Or.inl (by assumption))) | (exact WNp.gn (by assumption) (by omega)) | (exact GS.ln (by assumption)) | (exact GS.c4w hp_2 (by assumption) ⟨by omega, by omega⟩ ⟨rF s104 (rR σ 7) 9, y104_5 - x1, by omega, by omega, by omega, by omega, by omega⟩) | (exact RG.t4 hp_2 (by assumption) (by omega)) | done)), ?_⟩
          intro hr_; unfold rng at hr_
          refine ⟨fun c150 => ?_, fun c150 => ?_⟩
          · have wl_ := hp_12 y104_5 (by omega) (by omega) (by have e_ := (show ∀ i, rA s104 1034 i = rA σ 1034 i by assumption) y104_5; omega)
            rw [← (show ∀ i, rA s104 1035 i = rA σ 1035 i by assumption) y104_5] at wl_
            obtain ⟨wl1, wl2, wl3, wl4, wl5⟩ := wl_
            refine ⟨(by (try simp only [Ks104]); (all_goals (repeat' (first | with_reducible intro _ | with_reducible apply And.intro))); all_goals (first | assumption | trivial | omega | (have zz_ := fz_z (by assumption); omega) | (split <;> omega) | (exact SPn.z) | (exact SPn.s (by assumption) (by rw [← (show ∀ i, rA s104 1034 i = rA σ 1034 i by assumption) y104_5]; omega)) | (exact WNp.gs (by assumption) (by assumption) (by assumption)) | (exact WNp.gn (by assumption) (Or.inl (by assumption))) | (exact WNp.gn (by assumption) (by omega)) | (exact GS.ln (by assumption)) | (exact GS.c4w hp_2 (by assumption) ⟨by omega, by omega⟩ ⟨rF s104 (rR σ 7) 9, y104_5 - x1, by omega, by omega, by omega, by omega, by omega⟩) | (exact RG.t4 hp_2 (by assumption) (by omega)) | done)), ?_⟩
            intro hr_; unfold rng at hr_
            intro hr_; unfold rng at hr_
            refine ⟨(by (try simp only [Ks104]); (all_goals (repeat' (first | with_reducible intro _ | with_reducible apply And.intro))); all_goals (first | assumption | trivial | omega | (have zz_ := fz_z (by assumption); omega) | (split <;> omega) | (exact SPn.z) | (exact SPn.s (by assumption) (by rw [← (show ∀ i, rA s104 1034 i = rA σ 1034 i by assumption) y104_5]; omega)) | (exact WNp.gs (by assumption) (by assumption) (by assumption)) | (exact WNp.gn (by assumption) (Or.inl (by assumption))) | (exact WNp.gn (by assumption) (by omega)) | (exact GS.ln (by assumption)) | (exact GS.c4w hp_2 (by assumption) ⟨by omega, by omega⟩ ⟨rF s104 (rR σ 7) 9, y104_5 - x1, by omega, by omega, by omega, by omega, by omega⟩) | (exact RG.t4 hp_2 (by assumption) (by omega)) | done)), ?_⟩
            refine ⟨(by (try simp only [rng, Ks104]); (all_goals (repeat' (first | with_reducible intro _ | with_reducible apply And.intro))); all_goals (first | assumption | trivial | omega | (have zz_ := fz_z (by assumption); omega) | (split <;> omega) | (exact SPn.z) | (exact SPn.s (by assumption) (by rw [← (show ∀ i, rA s104 1034 i = rA σ 1034 i by assumption) y104_5]; omega)) | (exact WNp.gs (by assumption) (by assumption) (by assumption)) | (exact WNp.gn (by assumption) (Or.inl (by assumption))) | (exact WNp.gn (by assumption) (by omega)) | (exact GS.ln (by assumption)) | (exact GS.c4w hp_2 (by assumption) ⟨by omega, by omega⟩ ⟨rF s104 (rR σ 7) 9, y104_5 - x1, by omega, by omega, by omega, by omega, by omega⟩) | (exact RG.t4 hp_2 (by assumption) (by omega)) | done)), ?_⟩
            exact (by (try simp only [inv_X14_line_w_206, reduceIte, and_true, true_and, and_false, false_and, and_self, Nat.reduceEqDiff, fz_sA, rF_sA, rA_sA, rR_sA, rF_sT, rR_sT, sT_sF, fz_sT, rA_sT26 hp_2, rA_sT27 hp_2, rA_sT34 hp_2, rA_sT35 hp_2, rA_sT36 hp_2, rA_sT37 hp_2, rA_sT40 hp_2, TPRp_sT hp_2, WNp_sT hp_2, VMp_sT hp_2, KYp_sT hp_2, PPp_sT hp_2, WFp_sT hp_2, CCp_sT hp_2, rNMp_sT4, PNp_sT4, Ks104]); (all_goals (repeat' (first | with_reducible intro _ | with_reducible apply And.intro))); all_goals (first | assumption | trivial | omega | (have zz_ := fz_z (by assumption); omega) | (split <;> omega) | (exact SPn.z) | (exact SPn.s (by assumption) (by rw [← (show ∀ i, rA s104 1034 i = rA σ 1034 i by assumption) y104_5]; omega)) | (exact WNp.gs (by assumption) (by assumption) (by assumption)) | (exact WNp.gn (by assumption) (Or.inl (by assumption))) | (exact WNp.gn (by assumption) (by omega)) | (exact GS.ln (by assumption)) | (exact GS.c4w hp_2 (by assumption) ⟨by omega, by omega⟩ ⟨rF s104 (rR σ 7) 9, y104_5 - x1, by omega, by omega, by omega, by omega, by omega⟩) | (exact RG.t4 hp_2 (by assumption) (by omega)) | done))
          · refine ⟨fun c157 => ?_, fun c157 => ?_⟩
            · have wl_ := hp_12 y104_5 (by omega) (by omega) (by have e_ := (show ∀ i, rA s104 1034 i = rA σ 1034 i by assumption) y104_5; omega)
              rw [← (show ∀ i, rA s104 1035 i = rA σ 1035 i by assumption) y104_5] at wl_
              obtain ⟨wl1, wl2, wl3, wl4, wl5⟩ := wl_
              refine ⟨(by (try simp only [Ks104]); (all_goals (repeat' (first | with_reducible intro _ | with_reducible apply And.intro))); all_goals (first | assumption | trivial | omega | (have zz_ := fz_z (by assumption); omega) | (split <;> omega) | (exact SPn.z) | (exact SPn.s (by assumption) (by rw [← (show ∀ i, rA s104 1034 i = rA σ 1034 i by assumption) y104_5]; omega)) | (exact WNp.gs (by assumption) (by assumption) (by assumption)) | (exact WNp.gn (by assumption) (Or.inl (by assumption))) | (exact WNp.gn (by assumption) (by omega)) | (exact GS.ln (by assumption)) | (exact GS.c4w hp_2 (by assumption) ⟨by omega, by omega⟩ ⟨rF s104 (rR σ 7) 9, y104_5 - x1, by omega, by omega, by omega, by omega, by omega⟩) | (exact RG.t4 hp_2 (by assumption) (by omega)) | done)), ?_⟩
              intro hr_; unfold rng at hr_
              intro hr_; unfold rng at hr_
              refine ⟨(by (try simp only [Ks104]); (all_goals (repeat' (first | with_reducible intro _ | with_reducible apply And.intro))); all_goals (first | assumption | trivial | omega | (have zz_ := fz_z (by assumption); omega) | (split <;> omega) | (exact SPn.z) | (exact SPn.s (by assumption) (by rw [← (show ∀ i, rA s104 1034 i = rA σ 1034 i by assumption) y104_5]; omega)) | (exact WNp.gs (by assumption) (by assumption) (by assumption)) | (exact WNp.gn (by assumption) (Or.inl (by assumption))) | (exact WNp.gn (by assumption) (by omega)) | (exact GS.ln (by assumption)) | (exact GS.c4w hp_2 (by assumption) ⟨by omega, by omega⟩ ⟨rF s104 (rR σ 7) 9, y104_5 - x1, by omega, by omega, by omega, by omega, by omega⟩) | (exact RG.t4 hp_2 (by assumption) (by omega)) | done)), ?_⟩
              refine ⟨(by (try simp only [rng, Ks104]); (all_goals (repeat' (first | with_reducible intro _ | with_reducible apply And.intro))); all_goals (first | assumption | trivial | omega | (have zz_ := fz_z (by assumption); omega) | (split <;> omega) | (exact SPn.z) | (exact SPn.s (by assumption) (by rw [← (show ∀ i, rA s104 1034 i = rA σ 1034 i by assumption) y104_5]; omega)) | (exact WNp.gs (by assumption) (by assumption) (by assumption)) | (exact WNp.gn (by assumption) (Or.inl (by assumption))) | (exact WNp.gn (by assumption) (by omega)) | (exact GS.ln (by assumption)) | (exact GS.c4w hp_2 (by assumption) ⟨by omega, by omega⟩ ⟨rF s104 (rR σ 7) 9, y104_5 - x1, by omega, by omega, by omega, by omega, by omega⟩) | (exact RG.t4 hp_2 (by assumption) (by omega)) | done)), ?_⟩
              exact (by (try simp only [inv_X14_line_w_206, reduceIte, and_true, true_and, and_false, false_and, and_self, Nat.reduceEqDiff, fz_sA, rF_sA, rA_sA, rR_sA, rF_sT, rR_sT, sT_sF, fz_sT, rA_sT26 hp_2, rA_sT27 hp_2, rA_sT34 hp_2, rA_sT35 hp_2, rA_sT36 hp_2, rA_sT37 hp_2, rA_sT40 hp_2, TPRp_sT hp_2, WNp_sT hp_2, VMp_sT hp_2, KYp_sT hp_2, PPp_sT hp_2, WFp_sT hp_2, CCp_sT hp_2, rNMp_sT4, PNp_sT4, Ks104]); (all_goals (repeat' (first | with_reducible intro _ | with_reducible apply And.intro))); all_goals (first | assumption | trivial | omega | (have zz_ := fz_z (by assumption); omega) | (split <;> omega) | (exact SPn.z) | (exact SPn.s (by assumption) (by rw [← (show ∀ i, rA s104 1034 i = rA σ 1034 i by assumption) y104_5]; omega)) | (exact WNp.gs (by assumption) (by assumption) (by assumption)) | (exact WNp.gn (by assumption) (Or.inl (by assumption))) | (exact WNp.gn (by assumption) (by omega)) | (exact GS.ln (by assumption)) | (exact GS.c4w hp_2 (by assumption) ⟨by omega, by omega⟩ ⟨rF s104 (rR σ 7) 9, y104_5 - x1, by omega, by omega, by omega, by omega, by omega⟩) | (exact RG.t4 hp_2 (by assumption) (by omega)) | done))
            · refine ⟨fun c164 => ?_, fun c164 => ?_⟩
              · have wl_ := hp_12 y104_5 (by omega) (by omega) (by have e_ := (show ∀ i, rA s104 1034 i = rA σ 1034 i by assumption) y104_5; omega)
                rw [← (show ∀ i, rA s104 1035 i = rA σ 1035 i by assumption) y104_5] at wl_
                obtain ⟨wl1, wl2, wl3, wl4, wl5⟩ := wl_
                refine ⟨(by (try simp only [Ks104]); (all_goals (repeat' (first | with_reducible intro _ | with_reducible apply And.intro))); all_goals (first | assumption | trivial | omega | (have zz_ := fz_z (by assumption); omega) | (split <;> omega) | (exact SPn.z) | (exact SPn.s (by assumption) (by rw [← (show ∀ i, rA s104 1034 i = rA σ 1034 i by assumption) y104_5]; omega)) | (exact WNp.gs (by assumption) (by assumption) (by assumption)) | (exact WNp.gn (by assumption) (Or.inl (by assumption))) | (exact WNp.gn (by assumption) (by omega)) | (exact GS.ln (by assumption)) | (exact GS.c4w hp_2 (by assumption) ⟨by omega, by omega⟩ ⟨rF s104 (rR σ 7) 9, y104_5 - x1, by omega, by omega, by omega, by omega, by omega⟩) | (exact RG.t4 hp_2 (by assumption) (by omega)) | done)), ?_⟩
                intro hr_; unfold rng at hr_
                intro hr_; unfold rng at hr_
                refine ⟨(by (try simp only [Ks104]); (all_goals (repeat' (first | with_reducible intro _ | with_reducible apply And.intro))); all_goals (first | assumption | trivial | omega | (have zz_ := fz_z (by assumption); omega) | (split <;> omega) | (exact SPn.z) | (exact SPn.s (by assumption) (by rw [← (show ∀ i, rA s104 1034 i = rA σ 1034 i by assumption) y104_5]; omega)) | (exact WNp.gs (by assumption) (by assumption) (by assumption)) | (exact WNp.gn (by assumption) (Or.inl (by assumption))) | (exact WNp.gn (by assumption) (by omega)) | (exact GS.ln (by assumption)) | (exact GS.c4w hp_2 (by assumption) ⟨by omega, by omega⟩ ⟨rF s104 (rR σ 7) 9, y104_5 - x1, by omega, by omega, by omega, by omega, by omega⟩) | (exact RG.t4 hp_2 (by assumption) (by omega)) | done)), ?_⟩
                refine ⟨(by (try simp only [rng, Ks104]); (all_goals (repeat' (first | with_reducible intro _ | with_reducible apply And.intro))); all_goals (first | assumption | trivial | omega | (have zz_ := fz_z (by assumption); omega) | (split <;> omega) | (exact SPn.z) | (exact SPn.s (by assumption) (by rw [← (show ∀ i, rA s104 1034 i = rA σ 1034 i by assumption) y104_5]; omega)) | (exact WNp.gs (by assumption) (by assumption) (by assumption)) | (exact WNp.gn (by assumption) (Or.inl (by assumption))) | (exact WNp.gn (by assumption) (by omega)) | (exact GS.ln (by assumption)) | (exact GS.c4w hp_2 (by assumption) ⟨by omega, by omega⟩ ⟨rF s104 (rR σ 7) 9, y104_5 - x1, by omega, by omega, by omega, by omega, by omega⟩) | (exact RG.t4 hp_2 (by assumption) (by omega)) | done)), ?_⟩
                exact (by (try simp only [inv_X14_line_w_206, reduceIte, and_true, true_and, and_false, false_and, and_self, Nat.reduceEqDiff, fz_sA, rF_sA, rA_sA, rR_sA, rF_sT, rR_sT, sT_sF, fz_sT, rA_sT26 hp_2, rA_sT27 hp_2, rA_sT34 hp_2, rA_sT35 hp_2, rA_sT36 hp_2, rA_sT37 hp_2, rA_sT40 hp_2, TPRp_sT hp_2, WNp_sT hp_2, VMp_sT hp_2, KYp_sT hp_2, PPp_sT hp_2, WFp_sT hp_2, CCp_sT hp_2, rNMp_sT4, PNp_sT4, Ks104]); (all_goals (repeat' (first | with_reducible intro _ | with_reducible apply And.intro))); all_goals (first | assumption | trivial | omega | (have zz_ := fz_z (by assumption); omega) | (split <;> omega) | (exact SPn.z) | (exact SPn.s (by assumption) (by rw [← (show ∀ i, rA s104 1034 i = rA σ 1034 i by assumption) y104_5]; omega)) | (exact WNp.gs (by assumption) (by assumption) (by assumption)) | (exact WNp.gn (by assumption) (Or.inl (by assumption))) | (exact WNp.gn (by assumption) (by omega)) | (exact GS.ln (by assumption)) | (exact GS.c4w hp_2 (by assumption) ⟨by omega, by omega⟩ ⟨rF s104 (rR σ 7) 9, y104_5 - x1, by omega, by omega, by omega, by omega, by omega⟩) | (exact RG.t4 hp_2 (by assumption) (by omega)) | done))
              · exact (by (try simp only [post_X14_line_w, Ks104]); (all_goals (repeat' (first | with_reducible intro _ | with_reducible apply And.intro))); all_goals (first | assumption | trivial | omega | (have zz_ := fz_z (by assumption); omega) | (split <;> omega) | (exact SPn.z) | (exact SPn.s (by assumption) (by rw [← (show ∀ i, rA s104 1034 i = rA σ 1034 i by assumption) y104_5]; omega)) | (exact WNp.gs (by assumption) (by assumption) (by assumption)) | (exact WNp.gn (by assumption) (Or.inl (by assumption))) | (exact WNp.gn (by assumption) (by omega)) | (exact GS.ln (by assumption)) | (exact GS.c4w hp_2 (by assumption) ⟨by omega, by omega⟩ ⟨rF s104 (rR σ 7) 9, y104_5 - x1, by omega, by omega, by omega, by omega, by omega⟩) | (exact RG.t4 hp_2 (by assumption) (by omega)) | done))
        · exact (by (try simp only [post_X14_line_w, Ks104]); (all_goals (repeat' (first | with_reducible intro _ | with_reducible apply And.intro))); all_goals (first | assumption | trivial | omega | (have zz_ := fz_z (by assumption); omega) | (split <;> omega) | (exact SPn.z) | (exact SPn.s (by assumption) (by rw [← (show ∀ i, rA s104 1034 i = rA σ 1034 i by assumption) y104_5]; omega)) | (exact WNp.gs (by assumption) (by assumption) (by assumption)) | (exact WNp.gn (by assumption) (Or.inl (by assumption))) | (exact WNp.gn (by assumption) (by omega)) | (exact GS.ln (by assumption)) | (exact GS.c4w hp_2 (by assumption) ⟨by omega, by omega⟩ ⟨rF s104 (rR σ 7) 9, y104_5 - x1, by omega, by omega, by omega, by omega, by omega⟩) | (exact RG.t4 hp_2 (by assumption) (by omega)) | done))
    · refine ⟨(by (try simp only [rng, Ks104]); (all_goals (repeat' (first | with_reducible intro _ | with_reducible apply And.intro))); all_goals (first | assumption | trivial | omega | (have zz_ := fz_z (by assumption); omega) | (split <;> omega) | (exact SPn.z) | (exact SPn.s (by assumption) (by rw [← (show ∀ i, rA s104 1034 i = rA σ 1034 i by assumption) y104_5]; omega)) | (exact WNp.gs (by assumption) (by assumption) (by assumption)) | (exact WNp.gn (by assumption) (Or.inl (by assumption))) | (exact WNp.gn (by assumption) (by omega)) | (exact GS.ln (by assumption)) | (exact GS.c4w hp_2 (by assumption) ⟨by omega, by omega⟩ ⟨rF s104 (rR σ 7) 9, y104_5 - x1, by omega, by omega, by omega, by omega, by omega⟩) | (exact RG.t4 hp_2 (by assumption) (by omega)) | done)), ?_⟩
      exact (by (try simp only [inv_X14_line_w_104, mu_X14_line_w_104, mu_X14_line_w_104, Ks104]); (all_goals (repeat' (first | with_reducible intro _ | with_reducible apply And.intro))); all_goals (first | assumption | trivial | omega | (have zz_ := fz_z (by assumption); omega) | (split <;> omega) | (exact SPn.z) | (exact SPn.s (by assumption) (by rw [← (show ∀ i, rA s104 1034 i = rA σ 1034 i by assumption) y104_5]; omega)) | (exact WNp.gs (by assumption) (by assumption) (by assumption)) | (exact WNp.gn (by assumption) (Or.inl (by assumption))) | (exact WNp.gn (by assumption) (by omega)) | (exact GS.ln (by assumption)) | (exact GS.c4w hp_2 (by assumption) ⟨by omega, by omega⟩ ⟨rF s104 (rR σ 7) 9, y104_5 - x1, by omega, by omega, by omega, by omega, by omega⟩) | (exact RG.t4 hp_2 (by assumption) (by omega)) | done))
set_option maxHeartbeats 20000000 in
theorem vX14_line_w_104m (σ : rS) (x1 : Int) (x2 : Int) (gg : Nat) (g : Nat → Int → Int) (nn : Int) (hwf : rWF σ) (hx1 : rng x1) (hx2 : rng x2) (hp : pre_X14_line_w σ x1 x2 gg g nn) : VC_X14_line_w_104m σ x1 x2 gg g nn := by
  unfold pre_X14_line_w at hp
  obtain ⟨hp_1, hp_2, hp_3, hp_4, hp_5, hp_6, hp_7, hp_8, hp_9, hp_10, hp_11, hp_12, hp_13, hp_14, hp_15⟩ := hp
  unfold rng at hx1 hx2
  subst hp_1
  have R0 := RG.rf7 hp_2 hp_14
  unfold VC_X14_line_w_104m
  (try simp only [inv_X14_line_w_104, mu_X14_line_w_104]); (all_goals (repeat' (first | with_reducible intro _ | with_reducible apply And.intro))); all_goals (first | assumption | omega | grind (splits := 20))
set_option maxHeartbeats 20000000 in
theorem vX14_line_w_60 (σ : rS) (x1 : Int) (x2 : Int) (gg : Nat) (g : Nat → Int → Int) (nn : Int) (hwf : rWF σ) (hx1 : rng x1) (hx2 : rng x2) (hp : pre_X14_line_w σ x1 x2 gg g nn) : VC_X14_line_w_60 σ x1 x2 gg g nn (post_X14_line_w σ x1 x2 gg g nn) := by
  unfold pre_X14_line_w at hp
  obtain ⟨hp_1, hp_2, hp_3, hp_4, hp_5, hp_6, hp_7, hp_8, hp_9, hp_10, hp_11, hp_12, hp_13, hp_14, hp_15⟩ := hp
  unfold rng at hx1 hx2
  subst hp_1
  have R0 := RG.rf7 hp_2 hp_14
  unfold VC_X14_line_w_60
  intro s60 y60_5 Ws60 hy60_5 e60_0 e60_1 e60_2 e60_3 e60_4 e60_5 e60_6 e60_7 e60_8 I60
  have Ks60 : rR s60 7 = rR σ 7 := by omega
  unfold inv_X14_line_w_60 at I60
  obtain ⟨I60_1, I60_2, I60_3, I60_4, I60_5, I60_6⟩ := I60
  (try simp only [Ks60] at I60_1 I60_2 I60_3 I60_4 I60_5 I60_6)
  refine ⟨fun c63 => ?_, fun c63 => ?_⟩
  · intro hr_; unfold rng at hr_
    refine ⟨fun c90 => ?_, fun c90 => ?_⟩
    · exact (by (try simp only [post_X14_line_w, Ks60]); (all_goals (repeat' (first | with_reducible intro _ | with_reducible apply And.intro))); all_goals (first | assumption | trivial | omega | (have zz_ := fz_z (by assumption); omega) | (split <;> omega) | (exact SPn.z) | (exact SPn.s (by assumption) (by rw [← (show ∀ i, rA s104 1034 i = rA σ 1034 i by assumption) y104_5]; omega)) | (exact WNp.gs (by assumption) (by assumption) (by assumption)) | (exact WNp.gn (by assumption) (Or.inl (by assumption))) | (exact WNp.gn (by assumption) (by omega)) | (exact GS.ln (by assumption)) | (exact GS.c4w hp_2 (by assumption) ⟨by omega, by omega⟩ ⟨rF s104 (rR σ 7) 9, y104_5 - x1, by omega, by omega, by omega, by omega, by omega⟩) | (exact RG.t4 hp_2 (by assumption) (by omega)) | done))
    · have k2_ : rA s60 1034 x2 = 2 := by rw [(show ∀ i, rA s60 1034 i = rA σ 1034 i by assumption) x2]; exact hp_11 (by omega)
      refine ⟨(by (try simp only [Ks60]); (all_goals (repeat' (first | with_reducible intro _ | with_reducible apply And.intro))); all_goals (first | assumption | trivial | omega | (have zz_ := fz_z (by assumption); omega) | (split <;> omega) | (exact SPn.z) | (exact SPn.s (by assumption) (by rw [← (show ∀ i, rA s104 1034 i = rA σ 1034 i by assumption) y104_5]; omega)) | (exact WNp.gs (by assumption) (by assumption) (by assumption)) | (exact WNp.gn (by assumption) (Or.inl (by assumption))) | (exact WNp.gn (by assumption) (by omega)) | (exact GS.ln (by assumption)) | (exact GS.c4w hp_2 (by assumption) ⟨by omega, by omega⟩ ⟨rF s104 (rR σ 7) 9, y104_5 - x1, by omega, by omega, by omega, by omega, by omega⟩) | (exact RG.t4 hp_2 (by assumption) (by omega)) | done)), ?_⟩
      exact (by (try simp only [post_X14_line_w, reduceIte, and_true, true_and, and_false, false_and, and_self, Nat.reduceEqDiff, fz_sA, rF_sA, rA_sA, rR_sA, rNMp_a37, PNp_a37, GS_a37, OP_a37, NR_a37, LI_a37, tr_a37, RG_la37, RG_ra37, TPRp_sA37, VMp_sA37, KYp_sA37, PPp_sA37, WFp_sA37, CCp_sA37, Ks60]); (all_goals (repeat' (first | with_reducible intro _ | with_reducible apply And.intro))); all_goals (first | assumption | trivial | omega | (have zz_ := fz_z (by assumption); omega) | (split <;> omega) | (exact SPn.z) | (exact SPn.s (by assumption) (by rw [← (show ∀ i, rA s104 1034 i = rA σ 1034 i by assumption) y104_5]; omega)) | (exact WNp.gs (by assumption) (by assumption) (by assumption)) | (exact WNp.gn (by assumption) (Or.inl (by assumption))) | (exact WNp.gn (by assumption) (by omega)) | (exact GS.ln (by assumption)) | (exact GS.c4w hp_2 (by assumption) ⟨by omega, by omega⟩ ⟨rF s104 (rR σ 7) 9, y104_5 - x1, by omega, by omega, by omega, by omega, by omega⟩) | (exact RG.t4 hp_2 (by assumption) (by omega)) | done))
  · refine ⟨(by (try simp only [pre_X14_isSpace, Ks60]); (all_goals (repeat' (first | with_reducible intro _ | with_reducible apply And.intro))); all_goals (first | assumption | trivial | omega | (have zz_ := fz_z (by assumption); omega) | (split <;> omega) | (exact SPn.z) | (exact SPn.s (by assumption) (by rw [← (show ∀ i, rA s104 1034 i = rA σ 1034 i by assumption) y104_5]; omega)) | (exact WNp.gs (by assumption) (by assumption) (by assumption)) | (exact WNp.gn (by assumption) (Or.inl (by assumption))) | (exact WNp.gn (by assumption) (by omega)) | (exact GS.ln (by assumption)) | (exact GS.c4w hp_2 (by assumption) ⟨by omega, by omega⟩ ⟨rF s104 (rR σ 7) 9, y104_5 - x1, by omega, by omega, by omega, by omega, by omega⟩) | (exact RG.t4 hp_2 (by assumption) (by omega)) | done)), ?_⟩
    intro v75 hv75 q75
    unfold rng at hv75
    unfold post_X14_isSpace at q75
    obtain ⟨q75_1, q75_2⟩ := q75
    (try simp only [Ks60] at q75_1 q75_2)
    refine ⟨(by (try simp only [Ks60]); (all_goals (repeat' (first | with_reducible intro _ | with_reducible apply And.intro))); all_goals (first | assumption | trivial | omega | (have zz_ := fz_z (by assumption); omega) | (split <;> omega) | (exact SPn.z) | (exact SPn.s (by assumption) (by rw [← (show ∀ i, rA s104 1034 i = rA σ 1034 i by assumption) y104_5]; omega)) | (exact WNp.gs (by assumption) (by assumption) (by assumption)) | (exact WNp.gn (by assumption) (Or.inl (by assumption))) | (exact WNp.gn (by assumption) (by omega)) | (exact GS.ln (by assumption)) | (exact GS.c4w hp_2 (by assumption) ⟨by omega, by omega⟩ ⟨rF s104 (rR σ 7) 9, y104_5 - x1, by omega, by omega, by omega, by omega, by omega⟩) | (exact RG.t4 hp_2 (by assumption) (by omega)) | done)), ?_⟩
    refine ⟨(by (try simp only [rng, reduceIte, and_true, true_and, and_false, false_and, and_self, Nat.reduceEqDiff, fz_sA, rF_sA, rA_sA, rR_sA, rNMp_a37, PNp_a37, GS_a37, OP_a37, NR_a37, LI_a37, tr_a37, RG_la37, RG_ra37, TPRp_sA37, VMp_sA37, KYp_sA37, PPp_sA37, WFp_sA37, CCp_sA37, Ks60]); (all_goals (repeat' (first | with_reducible intro _ | with_reducible apply And.intro))); all_goals (first | assumption | trivial | omega | (have zz_ := fz_z (by assumption); omega) | (split <;> omega) | (exact SPn.z) | (exact SPn.s (by assumption) (by rw [← (show ∀ i, rA s104 1034 i = rA σ 1034 i by assumption) y104_5]; omega)) | (exact WNp.gs (by assumption) (by assumption) (by assumption)) | (exact WNp.gn (by assumption) (Or.inl (by assumption))) | (exact WNp.gn (by assumption) (by omega)) | (exact GS.ln (by assumption)) | (exact GS.c4w hp_2 (by assumption) ⟨by omega, by omega⟩ ⟨rF s104 (rR σ 7) 9, y104_5 - x1, by omega, by omega, by omega, by omega, by omega⟩) | (exact RG.t4 hp_2 (by assumption) (by omega)) | done)), ?_⟩
    exact (by (try simp only [inv_X14_line_w_60, mu_X14_line_w_60, mu_X14_line_w_60, reduceIte, and_true, true_and, and_false, false_and, and_self, Nat.reduceEqDiff, fz_sA, rF_sA, rA_sA, rR_sA, rNMp_a37, PNp_a37, GS_a37, OP_a37, NR_a37, LI_a37, tr_a37, RG_la37, RG_ra37, TPRp_sA37, VMp_sA37, KYp_sA37, PPp_sA37, WFp_sA37, CCp_sA37, Ks60]); (all_goals (repeat' (first | with_reducible intro _ | with_reducible apply And.intro))); all_goals (first | assumption | trivial | omega | (have zz_ := fz_z (by assumption); omega) | (split <;> omega) | (exact SPn.z) | (exact SPn.s (by assumption) (by rw [← (show ∀ i, rA s104 1034 i = rA σ 1034 i by assumption) y104_5]; omega)) | (exact WNp.gs (by assumption) (by assumption) (by assumption)) | (exact WNp.gn (by assumption) (Or.inl (by assumption))) | (exact WNp.gn (by assumption) (by omega)) | (exact GS.ln (by assumption)) | (exact GS.c4w hp_2 (by assumption) ⟨by omega, by omega⟩ ⟨rF s104 (rR σ 7) 9, y104_5 - x1, by omega, by omega, by omega, by omega, by omega⟩) | (exact RG.t4 hp_2 (by assumption) (by omega)) | done))
set_option maxHeartbeats 20000000 in
theorem vX14_line_w_60m (σ : rS) (x1 : Int) (x2 : Int) (gg : Nat) (g : Nat → Int → Int) (nn : Int) (hwf : rWF σ) (hx1 : rng x1) (hx2 : rng x2) (hp : pre_X14_line_w σ x1 x2 gg g nn) : VC_X14_line_w_60m σ x1 x2 gg g nn := by
  unfold pre_X14_line_w at hp
  obtain ⟨hp_1, hp_2, hp_3, hp_4, hp_5, hp_6, hp_7, hp_8, hp_9, hp_10, hp_11, hp_12, hp_13, hp_14, hp_15⟩ := hp
  unfold rng at hx1 hx2
  subst hp_1
  have R0 := RG.rf7 hp_2 hp_14
  unfold VC_X14_line_w_60m
  (try simp only [inv_X14_line_w_60, mu_X14_line_w_60]); (all_goals (repeat' (first | with_reducible intro _ | with_reducible apply And.intro))); all_goals (first | assumption | omega | grind (splits := 20))
set_option maxHeartbeats 20000000 in
theorem vX14_line_w_8 (σ : rS) (x1 : Int) (x2 : Int) (gg : Nat) (g : Nat → Int → Int) (nn : Int) (hwf : rWF σ) (hx1 : rng x1) (hx2 : rng x2) (hp : pre_X14_line_w σ x1 x2 gg g nn) : VC_X14_line_w_8 σ x1 x2 gg g nn (post_X14_line_w σ x1 x2 gg g nn) := by
  unfold pre_X14_line_w at hp
  obtain ⟨hp_1, hp_2, hp_3, hp_4, hp_5, hp_6, hp_7, hp_8, hp_9, hp_10, hp_11, hp_12, hp_13, hp_14, hp_15⟩ := hp
  unfold rng at hx1 hx2
  subst hp_1
  have R0 := RG.rf7 hp_2 hp_14
  unfold VC_X14_line_w_8
  intro s8 y8_3 y8_4 y8_5 Ws8 hy8_3 hy8_4 hy8_5 e8_0 e8_1 e8_2 e8_3 e8_4 e8_5 e8_6 e8_7 e8_8 I8
  have Ks8 : rR s8 7 = rR σ 7 := by omega
  unfold inv_X14_line_w_8 at I8
  obtain ⟨I8_1, I8_2, I8_3, I8_4, I8_5, I8_6, I8_7, I8_8, I8_9, I8_10⟩ := I8
  (try simp only [Ks8] at I8_1 I8_2 I8_3 I8_4 I8_5 I8_6 I8_7 I8_8 I8_9 I8_10)
  refine ⟨fun c11 => ?_, fun c11 => ?_⟩
  · refine ⟨fun c49 => ?_, fun c49 => ?_⟩
    · exact (by (try simp only [inv_X14_line_w_104, Ks8]); (all_goals (repeat' (first | with_reducible intro _ | with_reducible apply And.intro))); all_goals (first | assumption | trivial | omega | (have zz_ := fz_z (by assumption); omega) | (split <;> omega) | (exact SPn.z) | (exact SPn.s (by assumption) (by rw [← (show ∀ i, rA s104 1034 i = rA σ 1034 i by assumption) y104_5]; omega)) | (exact WNp.gs (by assumption) (by assumption) (by assumption)) | (exact WNp.gn (by assumption) (Or.inl (by assumption))) | (exact WNp.gn (by assumption) (by omega)) | (exact GS.ln (by assumption)) | (exact GS.c4w hp_2 (by assumption) ⟨by omega, by omega⟩ ⟨rF s104 (rR σ 7) 9, y104_5 - x1, by omega, by omega, by omega, by omega, by omega⟩) | (exact RG.t4 hp_2 (by assumption) (by omega)) | done))
    · refine ⟨fun c54 => ?_, fun c54 => ?_⟩
      · exact (by (try simp only [inv_X14_line_w_104, Ks8]); (all_goals (repeat' (first | with_reducible intro _ | with_reducible apply And.intro))); all_goals (first | assumption | trivial | omega | (have zz_ := fz_z (by assumption); omega) | (split <;> omega) | (exact SPn.z) | (exact SPn.s (by assumption) (by rw [← (show ∀ i, rA s104 1034 i = rA σ 1034 i by assumption) y104_5]; omega)) | (exact WNp.gs (by assumption) (by assumption) (by assumption)) | (exact WNp.gn (by assumption) (Or.inl (by assumption))) | (exact WNp.gn (by assumption) (by omega)) | (exact GS.ln (by assumption)) | (exact GS.c4w hp_2 (by assumption) ⟨by omega, by omega⟩ ⟨rF s104 (rR σ 7) 9, y104_5 - x1, by omega, by omega, by omega, by omega, by omega⟩) | (exact RG.t4 hp_2 (by assumption) (by omega)) | done))
      · exact (by (try simp only [inv_X14_line_w_60, Ks8]); (all_goals (repeat' (first | with_reducible intro _ | with_reducible apply And.intro))); all_goals (first | assumption | trivial | omega | (have zz_ := fz_z (by assumption); omega) | (split <;> omega) | (exact SPn.z) | (exact SPn.s (by assumption) (by rw [← (show ∀ i, rA s104 1034 i = rA σ 1034 i by assumption) y104_5]; omega)) | (exact WNp.gs (by assumption) (by assumption) (by assumption)) | (exact WNp.gn (by assumption) (Or.inl (by assumption))) | (exact WNp.gn (by assumption) (by omega)) | (exact GS.ln (by assumption)) | (exact GS.c4w hp_2 (by assumption) ⟨by omega, by omega⟩ ⟨rF s104 (rR σ 7) 9, y104_5 - x1, by omega, by omega, by omega, by omega, by omega⟩) | (exact RG.t4 hp_2 (by assumption) (by omega)) | done))
  · refine ⟨(by (try simp only [pre_X14_isLineTag, Ks8]); (all_goals (repeat' (first | with_reducible intro _ | with_reducible apply And.intro))); all_goals (first | assumption | trivial | omega | (have zz_ := fz_z (by assumption); omega) | (split <;> omega) | (exact SPn.z) | (exact SPn.s (by assumption) (by rw [← (show ∀ i, rA s104 1034 i = rA σ 1034 i by assumption) y104_5]; omega)) | (exact WNp.gs (by assumption) (by assumption) (by assumption)) | (exact WNp.gn (by assumption) (Or.inl (by assumption))) | (exact WNp.gn (by assumption) (by omega)) | (exact GS.ln (by assumption)) | (exact GS.c4w hp_2 (by assumption) ⟨by omega, by omega⟩ ⟨rF s104 (rR σ 7) 9, y104_5 - x1, by omega, by omega, by omega, by omega, by omega⟩) | (exact RG.t4 hp_2 (by assumption) (by omega)) | done)), ?_⟩
    intro v17 hv17 q17
    unfold rng at hv17
    unfold post_X14_isLineTag at q17
    (try simp only [Ks8] at q17)
    refine ⟨fun c20 => ?_, fun c20 => ?_⟩
    · refine ⟨(by (try simp only [pre_X14_isSpace, Ks8]); (all_goals (repeat' (first | with_reducible intro _ | with_reducible apply And.intro))); all_goals (first | assumption | trivial | omega | (have zz_ := fz_z (by assumption); omega) | (split <;> omega) | (exact SPn.z) | (exact SPn.s (by assumption) (by rw [← (show ∀ i, rA s104 1034 i = rA σ 1034 i by assumption) y104_5]; omega)) | (exact WNp.gs (by assumption) (by assumption) (by assumption)) | (exact WNp.gn (by assumption) (Or.inl (by assumption))) | (exact WNp.gn (by assumption) (by omega)) | (exact GS.ln (by assumption)) | (exact GS.c4w hp_2 (by assumption) ⟨by omega, by omega⟩ ⟨rF s104 (rR σ 7) 9, y104_5 - x1, by omega, by omega, by omega, by omega, by omega⟩) | (exact RG.t4 hp_2 (by assumption) (by omega)) | done)), ?_⟩
      intro v32 hv32 q32
      unfold rng at hv32
      unfold post_X14_isSpace at q32
      obtain ⟨q32_1, q32_2⟩ := q32
      (try simp only [Ks8] at q32_1 q32_2)
      refine ⟨fun c35 => ?_, fun c35 => ?_⟩
      · refine ⟨(by (try simp only [rng, Ks8]); (all_goals (repeat' (first | with_reducible intro _ | with_reducible apply And.intro))); all_goals (first | assumption | trivial | omega | (have zz_ := fz_z (by assumption); omega) | (split <;> omega) | (exact SPn.z) | (exact SPn.s (by assumption) (by rw [← (show ∀ i, rA s104 1034 i = rA σ 1034 i by assumption) y104_5]; omega)) | (exact WNp.gs (by assumption) (by assumption) (by assumption)) | (exact WNp.gn (by assumption) (Or.inl (by assumption))) | (exact WNp.gn (by assumption) (by omega)) | (exact GS.ln (by assumption)) | (exact GS.c4w hp_2 (by assumption) ⟨by omega, by omega⟩ ⟨rF s104 (rR σ 7) 9, y104_5 - x1, by omega, by omega, by omega, by omega, by omega⟩) | (exact RG.t4 hp_2 (by assumption) (by omega)) | done)), ?_⟩
        exact (by (try simp only [inv_X14_line_w_8, mu_X14_line_w_8, mu_X14_line_w_8, Ks8]); (all_goals (repeat' (first | with_reducible intro _ | with_reducible apply And.intro))); all_goals (first | assumption | trivial | omega | (have zz_ := fz_z (by assumption); omega) | (split <;> omega) | (exact SPn.z) | (exact SPn.s (by assumption) (by rw [← (show ∀ i, rA s104 1034 i = rA σ 1034 i by assumption) y104_5]; omega)) | (exact WNp.gs (by assumption) (by assumption) (by assumption)) | (exact WNp.gn (by assumption) (Or.inl (by assumption))) | (exact WNp.gn (by assumption) (by omega)) | (exact GS.ln (by assumption)) | (exact GS.c4w hp_2 (by assumption) ⟨by omega, by omega⟩ ⟨rF s104 (rR σ 7) 9, y104_5 - x1, by omega, by omega, by omega, by omega, by omega⟩) | (exact RG.t4 hp_2 (by assumption) (by omega)) | done))
      · refine ⟨(by (try simp only [rng, Ks8]); (all_goals (repeat' (first | with_reducible intro _ | with_reducible apply And.intro))); all_goals (first | assumption | trivial | omega | (have zz_ := fz_z (by assumption); omega) | (split <;> omega) | (exact SPn.z) | (exact SPn.s (by assumption) (by rw [← (show ∀ i, rA s104 1034 i = rA σ 1034 i by assumption) y104_5]; omega)) | (exact WNp.gs (by assumption) (by assumption) (by assumption)) | (exact WNp.gn (by assumption) (Or.inl (by assumption))) | (exact WNp.gn (by assumption) (by omega)) | (exact GS.ln (by assumption)) | (exact GS.c4w hp_2 (by assumption) ⟨by omega, by omega⟩ ⟨rF s104 (rR σ 7) 9, y104_5 - x1, by omega, by omega, by omega, by omega, by omega⟩) | (exact RG.t4 hp_2 (by assumption) (by omega)) | done)), ?_⟩
        refine ⟨(by (try simp only [rng, Ks8]); (all_goals (repeat' (first | with_reducible intro _ | with_reducible apply And.intro))); all_goals (first | assumption | trivial | omega | (have zz_ := fz_z (by assumption); omega) | (split <;> omega) | (exact SPn.z) | (exact SPn.s (by assumption) (by rw [← (show ∀ i, rA s104 1034 i = rA σ 1034 i by assumption) y104_5]; omega)) | (exact WNp.gs (by assumption) (by assumption) (by assumption)) | (exact WNp.gn (by assumption) (Or.inl (by assumption))) | (exact WNp.gn (by assumption) (by omega)) | (exact GS.ln (by assumption)) | (exact GS.c4w hp_2 (by assumption) ⟨by omega, by omega⟩ ⟨rF s104 (rR σ 7) 9, y104_5 - x1, by omega, by omega, by omega, by omega, by omega⟩) | (exact RG.t4 hp_2 (by assumption) (by omega)) | done)), ?_⟩
        exact (by (try simp only [inv_X14_line_w_8, mu_X14_line_w_8, mu_X14_line_w_8, Ks8]); (all_goals (repeat' (first | with_reducible intro _ | with_reducible apply And.intro))); all_goals (first | assumption | trivial | omega | (have zz_ := fz_z (by assumption); omega) | (split <;> omega) | (exact SPn.z) | (exact SPn.s (by assumption) (by rw [← (show ∀ i, rA s104 1034 i = rA σ 1034 i by assumption) y104_5]; omega)) | (exact WNp.gs (by assumption) (by assumption) (by assumption)) | (exact WNp.gn (by assumption) (Or.inl (by assumption))) | (exact WNp.gn (by assumption) (by omega)) | (exact GS.ln (by assumption)) | (exact GS.c4w hp_2 (by assumption) ⟨by omega, by omega⟩ ⟨rF s104 (rR σ 7) 9, y104_5 - x1, by omega, by omega, by omega, by omega, by omega⟩) | (exact RG.t4 hp_2 (by assumption) (by omega)) | done))
    · refine ⟨(by (try simp only [rng, Ks8]); (all_goals (repeat' (first | with_reducible intro _ | with_reducible apply And.intro))); all_goals (first | assumption | trivial | omega | (have zz_ := fz_z (by assumption); omega) | (split <;> omega) | (exact SPn.z) | (exact SPn.s (by assumption) (by rw [← (show ∀ i, rA s104 1034 i = rA σ 1034 i by assumption) y104_5]; omega)) | (exact WNp.gs (by assumption) (by assumption) (by assumption)) | (exact WNp.gn (by assumption) (Or.inl (by assumption))) | (exact WNp.gn (by assumption) (by omega)) | (exact GS.ln (by assumption)) | (exact GS.c4w hp_2 (by assumption) ⟨by omega, by omega⟩ ⟨rF s104 (rR σ 7) 9, y104_5 - x1, by omega, by omega, by omega, by omega, by omega⟩) | (exact RG.t4 hp_2 (by assumption) (by omega)) | done)), ?_⟩
      refine ⟨(by (try simp only [rng, Ks8]); (all_goals (repeat' (first | with_reducible intro _ | with_reducible apply And.intro))); all_goals (first | assumption | trivial | omega | (have zz_ := fz_z (by assumption); omega) | (split <;> omega) | (exact SPn.z) | (exact SPn.s (by assumption) (by rw [← (show ∀ i, rA s104 1034 i = rA σ 1034 i by assumption) y104_5]; omega)) | (exact WNp.gs (by assumption) (by assumption) (by assumption)) | (exact WNp.gn (by assumption) (Or.inl (by assumption))) | (exact WNp.gn (by assumption) (by omega)) | (exact GS.ln (by assumption)) | (exact GS.c4w hp_2 (by assumption) ⟨by omega, by omega⟩ ⟨rF s104 (rR σ 7) 9, y104_5 - x1, by omega, by omega, by omega, by omega, by omega⟩) | (exact RG.t4 hp_2 (by assumption) (by omega)) | done)), ?_⟩
      exact (by (try simp only [inv_X14_line_w_8, mu_X14_line_w_8, mu_X14_line_w_8, Ks8]); (all_goals (repeat' (first | with_reducible intro _ | with_reducible apply And.intro))); all_goals (first | assumption | trivial | omega | (have zz_ := fz_z (by assumption); omega) | (split <;> omega) | (exact SPn.z) | (exact SPn.s (by assumption) (by rw [← (show ∀ i, rA s104 1034 i = rA σ 1034 i by assumption) y104_5]; omega)) | (exact WNp.gs (by assumption) (by assumption) (by assumption)) | (exact WNp.gn (by assumption) (Or.inl (by assumption))) | (exact WNp.gn (by assumption) (by omega)) | (exact GS.ln (by assumption)) | (exact GS.c4w hp_2 (by assumption) ⟨by omega, by omega⟩ ⟨rF s104 (rR σ 7) 9, y104_5 - x1, by omega, by omega, by omega, by omega, by omega⟩) | (exact RG.t4 hp_2 (by assumption) (by omega)) | done))
set_option maxHeartbeats 20000000 in
theorem vX14_line_w_8m (σ : rS) (x1 : Int) (x2 : Int) (gg : Nat) (g : Nat → Int → Int) (nn : Int) (hwf : rWF σ) (hx1 : rng x1) (hx2 : rng x2) (hp : pre_X14_line_w σ x1 x2 gg g nn) : VC_X14_line_w_8m σ x1 x2 gg g nn := by
  unfold pre_X14_line_w at hp
  obtain ⟨hp_1, hp_2, hp_3, hp_4, hp_5, hp_6, hp_7, hp_8, hp_9, hp_10, hp_11, hp_12, hp_13, hp_14, hp_15⟩ := hp
  unfold rng at hx1 hx2
  subst hp_1
  have R0 := RG.rf7 hp_2 hp_14
  unfold VC_X14_line_w_8m
  (try simp only [inv_X14_line_w_8, mu_X14_line_w_8]); (all_goals (repeat' (first | with_reducible intro _ | with_reducible apply And.intro))); all_goals (first | assumption | omega | grind (splits := 20))
theorem wX14_line_w (l : Launch) (G : zG) (κ : Nat → Nat) (σ : rS) (x1 : Int) (x2 : Int) (gg : Nat) (g : Nat → Int → Int) (nn : Int) (hwf : rWF σ) (hx1 : rng x1) (hx2 : rng x2) (Q : rS → Prop) (h : VC_X14_line_w σ x1 x2 gg g nn Q) (h_206 : VC_X14_line_w_206 σ x1 x2 gg g nn Q) (h_206m : VC_X14_line_w_206m σ x1 x2 gg g nn) (h_104 : VC_X14_line_w_104 σ x1 x2 gg g nn Q) (h_104m : VC_X14_line_w_104m σ x1 x2 gg g nn) (h_60 : VC_X14_line_w_60 σ x1 x2 gg g nn Q) (h_60m : VC_X14_line_w_60m σ x1 x2 gg g nn) (h_8 : VC_X14_line_w_8 σ x1 x2 gg g nn Q) (h_8m : VC_X14_line_w_8m σ x1 x2 gg g nn) : rMv l G κ yX14_line cX14_line 9 2 21 [.ref (κ 0), iv x1, iv x2] σ (fun s => rKeep 0 0x200 0x2000000000 0x110 0 σ s ∧ Q s) := by
  refine zMv.intro (by decide +kernel) (Nat.le_of_ble_eq_true rfl) (fun X hC hR => ?_)
  obtain ⟨g0, h⟩ := h
  refine z_iconst hC (pc := 0) (v := Int32.ofInt 0) dX14_line_0 (by decide) ?_
  refine z_istore_n hC (pc := 1) (lv' := [(3, iv 0), (0, .ref (κ 0)), (1, iv x1), (2, iv x2)]) dX14_line_1 rfl (by decide) rfl ?_
  refine z_iconst hC (pc := 2) (v := Int32.ofInt 0) dX14_line_2 (by decide) ?_
  refine z_istore hC (pc := 3) (lv' := [(4, iv 0), (3, iv 0), (0, .ref (κ 0)), (1, iv x1), (2, iv x2)]) dX14_line_3 (by decide) rfl ?_
  refine z_iload_n hC (pc := 5) 3 dX14_line_5 rfl rfl ?_
  refine z_istore hC (pc := 6) (lv' := [(5, iv x1), (4, iv 0), (3, iv 0), (0, .ref (κ 0)), (1, iv x1), (2, iv x2)]) dX14_line_6 (by decide) rfl ?_
  have j8 : ∀ (d8 : Nat), ∀ (s8 : rS) (y8_3 : Int) (y8_4 : Int) (y8_5 : Int), rWF s8 → rng y8_3 → rng y8_4 → rng y8_5 → rKeep 0 0x200 0x2000000000 0x110 0 σ s8 → inv_X14_line_w_8 σ x1 x2 gg g nn s8 y8_3 y8_4 y8_5 → (mu_X14_line_w_8 σ x1 x2 gg g nn s8 y8_3 y8_4 y8_5) ≤ d8 → zS X G 9 (rW G κ s8) [(0, .ref (κ 0)), (1, iv x1), (2, iv x2), (3, iv y8_3), (4, iv y8_4), (5, iv y8_5)] 0 0 8 [] := by
    intro d8
    induction d8 with
    | zero =>
      intro s8 y8_3 y8_4 y8_5 Ws8 hy8_3 hy8_4 hy8_5 kJ hI hmu
      exact absurd hmu (by have := h_8m  s8 y8_3 y8_4 y8_5 Ws8 hy8_3 hy8_4 hy8_5 (kJ.R rfl) (kJ.F rfl) (kJ.F rfl) (fun i => kJ.A (f := 34) (by decide) rfl) (fun i => kJ.A (f := 35) (by decide) rfl) (fun i => kJ.A (f := 36) (by decide) rfl) (kJ.FG g0 rfl) (kJ.FG g0 rfl) (kJ.FG g0 rfl) hI; omega)
    | succ d8 ih8 =>
      intro s8 y8_3 y8_4 y8_5 Ws8 hy8_3 hy8_4 hy8_5 kJ hI hmu8
      have h := h_8  s8 y8_3 y8_4 y8_5 Ws8 hy8_3 hy8_4 hy8_5 (kJ.R rfl) (kJ.F rfl) (kJ.F rfl) (fun i => kJ.A (f := 34) (by decide) rfl) (fun i => kJ.A (f := 35) (by decide) rfl) (fun i => kJ.A (f := 36) (by decide) rfl) (kJ.FG g0 rfl) (kJ.FG g0 rfl) (kJ.FG g0 rfl) hI
      refine z_iload hC (pc := 8) 5 dX14_line_8 rfl ?_
      refine z_iload_n hC (pc := 10) 2 dX14_line_10 rfl rfl ?_
      obtain ⟨hT, hF⟩ := h
      refine y_icmp_ge hC (pc := 11) 47 hy8_5 hx2 dX14_line_11 (by decide) (fun c => ?_) (fun c => ?_)
      · have h := hT c
        refine z_iload_n hC (pc := 47) 3 dX14_line_47 rfl rfl ?_
        refine z_iconst hC (pc := 48) (v := Int32.ofInt 1) dX14_line_48 (by decide) ?_
        obtain ⟨hT, hF⟩ := h
        refine y_icmp_ne hC (pc := 49) 101 hy8_3 (r_lit rfl) dX14_line_49 (by decide) (fun c => ?_) (fun c => ?_)
        · have h := hT c
          refine z_iload_n hC (pc := 101) 1 dX14_line_101 rfl rfl ?_
          refine z_istore hC (pc := 102) (lv' := [(5, iv x1), (0, .ref (κ 0)), (1, iv x1), (2, iv x2), (3, iv y8_3), (4, iv y8_4)]) dX14_line_102 (by decide) rfl ?_
          have j104 : ∀ (d104 : Nat), ∀ (s104 : rS) (y104_5 : Int), rWF s104 → rng y104_5 → rKeep 0 0x200 0x2000000000 0x110 0 σ s104 → inv_X14_line_w_104 σ x1 x2 gg g nn s104 y104_5 → (mu_X14_line_w_104 σ x1 x2 gg g nn s104 y104_5) ≤ d104 → zS X G 9 (rW G κ s104) [(0, .ref (κ 0)), (1, iv x1), (2, iv x2), (5, iv y104_5)] 0 0 104 [] := by
            intro d104
            induction d104 with
            | zero =>
              intro s104 y104_5 Ws104 hy104_5 kJ hI hmu
              exact absurd hmu (by have := h_104m  s104 y104_5 Ws104 hy104_5 (kJ.R rfl) (kJ.F rfl) (kJ.F rfl) (fun i => kJ.A (f := 34) (by decide) rfl) (fun i => kJ.A (f := 35) (by decide) rfl) (fun i => kJ.A (f := 36) (by decide) rfl) (kJ.FG g0 rfl) (kJ.FG g0 rfl) (kJ.FG g0 rfl) hI; omega)
            | succ d104 ih104 =>
              intro s104 y104_5 Ws104 hy104_5 kJ hI hmu104
              have h := h_104  s104 y104_5 Ws104 hy104_5 (kJ.R rfl) (kJ.F rfl) (kJ.F rfl) (fun i => kJ.A (f := 34) (by decide) rfl) (fun i => kJ.A (f := 35) (by decide) rfl) (fun i => kJ.A (f := 36) (by decide) rfl) (kJ.FG g0 rfl) (kJ.FG g0 rfl) (kJ.FG g0 rfl) hI
              refine z_iload hC (pc := 104) 3 dX14_line_104 rfl ?_
              refine z_iload_n hC (pc := 106) 2 dX14_line_106 rfl rfl ?_
              obtain ⟨hT, hF⟩ := h
              refine y_icmp_ge hC (pc := 107) 125 hy104_5 hx2 dX14_line_107 (by decide) (fun c => ?_) (fun c => ?_)
              · have h := hT c
                refine z_iload hC (pc := 125) 3 dX14_line_125 rfl ?_
                refine z_iload_n hC (pc := 127) 1 dX14_line_127 rfl rfl ?_
                obtain ⟨hT, hF⟩ := h
                refine y_icmp_eq hC (pc := 128) 137 hy104_5 hx1 dX14_line_128 (by decide) (fun c => ?_) (fun c => ?_)
                · have h := hT c
                  exact y_retv hR dX14_line_137 Ws104 (Nat.le_of_ble_eq_true rfl) (Nat.le_of_ble_eq_true rfl) ⟨(rKeep.tr rKeep.rf kJ rfl rfl rfl rfl rfl), h⟩
                · have h := hF c
                  refine z_iload hC (pc := 131) 3 dX14_line_131 rfl ?_
                  refine z_iload_n hC (pc := 133) 2 dX14_line_133 rfl rfl ?_
                  obtain ⟨hT, hF⟩ := h
                  refine y_icmp_ne hC (pc := 134) 138 hy104_5 hx2 dX14_line_134 (by decide) (fun c => ?_) (fun c => ?_)
                  · have h := hT c
                    refine z_aload_n hC (pc := 138) 0 dX14_line_138 rfl rfl ?_
                    refine y_get hC (pc := 139) zf14 rOb_0 34 (v := .ref (κ 1034)) dX14_line_139 zw2501 (rv_c rfl) (kk := ?_)
                    refine z_iload hC (pc := 142) 3 dX14_line_142 rfl ?_
                    obtain ⟨b10, h⟩ := h
                    refine y_iald hC (pc := 144) (rAr_m rfl) dX14_line_144 b10 (v := (rA s104 1034 y104_5)) rfl (kk := ?_)
                    have h := h (Ws104.a _ _)
                    refine z_istore hC (pc := 145) (lv' := [(6, iv (rA s104 1034 y104_5)), (0, .ref (κ 0)), (1, iv x1), (2, iv x2), (5, iv y104_5)]) dX14_line_145 (by decide) rfl ?_
                    refine z_iload hC (pc := 147) 0 dX14_line_147 rfl ?_
                    refine z_iconst hC (pc := 149) (v := Int32.ofInt 4) dX14_line_149 (by decide) ?_
                    obtain ⟨hT, hF⟩ := h
                    refine y_icmp_eq hC (pc := 150) 168 (Ws104.a _ _) (r_lit rfl) dX14_line_150 (by decide) (fun c => ?_) (fun c => ?_)
                    · have h := hT c
                      refine z_aload_n hC (pc := 168) 1 dX14_line_168 rfl rfl ?_
                      refine y_get hC (pc := 169) zf14 rOb_0 35 (v := .ref (κ 1035)) dX14_line_169 zw2502 (rv_c rfl) (kk := ?_)
                      refine z_iload hC (pc := 172) 4 dX14_line_172 rfl ?_
                      obtain ⟨b11, h⟩ := h
                      refine y_iald hC (pc := 174) (rAr_m rfl) dX14_line_174 b11 (v := (rA s104 1035 y104_5)) rfl (kk := ?_)
                      have h := h (Ws104.a _ _)
                      refine z_istore hC (pc := 175) (lv' := [(7, iv (rA s104 1035 y104_5)), (6, iv (rA s104 1034 y104_5)), (0, .ref (κ 0)), (1, iv x1), (2, iv x2), (5, iv y104_5)]) dX14_line_175 (by decide) rfl ?_
                      refine z_aload_n hC (pc := 177) 2 dX14_line_177 rfl rfl ?_
                      refine y_get hC (pc := 178) zf14 rOb_0 7 (v := .ref (κ (rR σ 7))) dX14_line_178 zw2475 (rv_g rfl (kJ.R rfl) g0) (kk := ?_)
                      refine y_getN hC (pc := 181) zf13 (rOb_k g0) 4 (v := .ref (κ (1000 * ((rR σ 7) + 1) + 4))) dX14_line_181 zw2318 (rv_c rfl) (kk := ?_)
                      refine z_iload hC (pc := 184) 0 dX14_line_184 rfl ?_
                      refine z_sipush hC (pc := 186) (v := Int32.ofInt 4096) dX14_line_186 (by decide) ?_
                      refine z_aload_n hC (pc := 189) 2 dX14_line_189 rfl rfl ?_
                      refine y_get hC (pc := 190) zf14 rOb_0 7 (v := .ref (κ (rR σ 7))) dX14_line_190 zw2475 (rv_g rfl (kJ.R rfl) g0) (kk := ?_)
                      refine y_getN hC (pc := 193) zf13 (rOb_k g0) 9 (v := iv (rF s104 (rR σ 7) 9)) dX14_line_193 zw2328 (rv_i (Or.inl rfl) rfl) (kk := ?_)
                      have h := h (Ws104.f _ _)
                      refine y_imul hC (pc := 196) (v := (4096 * (rF s104 (rR σ 7) 9))) dX14_line_196 rfl ?_
                      refine z_iload hC (pc := 197) 5 dX14_line_197 rfl ?_
                      refine y_iadd hC (pc := 199) (v := ((4096 * (rF s104 (rR σ 7) 9)) + y104_5)) dX14_line_199 rfl ?_
                      refine z_iload_n hC (pc := 200) 3 dX14_line_200 rfl rfl ?_
                      refine y_isub hC (pc := 201) (v := (((4096 * (rF s104 (rR σ 7) 9)) + y104_5) - x1)) dX14_line_201 rfl ?_
                      obtain ⟨b12, h⟩ := h
                      obtain ⟨r13, h⟩ := h
                      refine y_iast hC (pc := 202) (rAr_k g0 rfl rfl) dX14_line_202 b12 (v := (((4096 * (rF s104 (rR σ 7) 9)) + y104_5) - x1)) (kk := ?_)
                      have W14 := Ws104.sA (p := (1000 * ((rR σ 7) + 1) + 4)) (i := (rA s104 1035 y104_5)) (x := (((4096 * (rF s104 (rR σ 7) 9)) + y104_5) - x1)) r13
                      refine z_iload_n hC (pc := 203) 3 dX14_line_203 rfl rfl ?_
                      refine z_istore hC (pc := 204) (lv' := [(8, iv x1), (7, iv (rA s104 1035 y104_5)), (6, iv (rA s104 1034 y104_5)), (0, .ref (κ 0)), (1, iv x1), (2, iv x2), (5, iv y104_5)]) dX14_line_204 (by decide) rfl ?_
                      have j206 : ∀ (d206 : Nat), ∀ (s206 : rS) (y206_5 : Int) (y206_8 : Int), rWF s206 → rng y206_5 → rng y206_8 → rKeep 0 0x200 0x2000000000 0x110 0 σ s206 → inv_X14_line_w_206 σ x1 x2 gg g nn s206 y206_5 y206_8 → (mu_X14_line_w_206 σ x1 x2 gg g nn s206 y206_5 y206_8) ≤ d206 → zS X G 9 (rW G κ s206) [(0, .ref (κ 0)), (5, iv y206_5), (8, iv y206_8)] 0 0 206 [] := by
                        intro d206
                        induction d206 with
                        | zero =>
                          intro s206 y206_5 y206_8 Ws206 hy206_5 hy206_8 kJ hI hmu
                          exact absurd hmu (by have := h_206m  s206 y206_5 y206_8 Ws206 hy206_5 hy206_8 (kJ.R rfl) (kJ.F rfl) (kJ.F rfl) (fun i => kJ.A (f := 34) (by decide) rfl) (fun i => kJ.A (f := 35) (by decide) rfl) (fun i => kJ.A (f := 36) (by decide) rfl) (kJ.FG g0 rfl) (kJ.FG g0 rfl) (kJ.FG g0 rfl) hI; omega)
                        | succ d206 ih206 =>
                          intro s206 y206_5 y206_8 Ws206 hy206_5 hy206_8 kJ hI hmu206
                          have h := h_206  s206 y206_5 y206_8 Ws206 hy206_5 hy206_8 (kJ.R rfl) (kJ.F rfl) (kJ.F rfl) (fun i => kJ.A (f := 34) (by decide) rfl) (fun i => kJ.A (f := 35) (by decide) rfl) (fun i => kJ.A (f := 36) (by decide) rfl) (kJ.FG g0 rfl) (kJ.FG g0 rfl) (kJ.FG g0 rfl) hI
                          refine z_iload hC (pc := 206) 2 dX14_line_206 rfl ?_
                          refine z_iload hC (pc := 208) 1 dX14_line_208 rfl ?_
                          obtain ⟨hT, hF⟩ := h
                          refine y_icmp_ge hC (pc := 210) 263 hy206_8 hy206_5 dX14_line_210 (by decide) (fun c => ?_) (fun c => ?_)
                          · have h := hT c
                            exact y_retv hR dX14_line_263 Ws206 (Nat.le_of_ble_eq_true rfl) (Nat.le_of_ble_eq_true rfl) ⟨(rKeep.tr rKeep.rf kJ rfl rfl rfl rfl rfl), h⟩
                          · have h := hF c
                            refine z_aload_n hC (pc := 213) 0 dX14_line_213 rfl rfl ?_
                            refine y_get hC (pc := 214) zf14 rOb_0 37 (v := .ref (κ 1037)) dX14_line_214 zw2504 (rv_c rfl) (kk := ?_)
                            refine z_iload hC (pc := 217) 2 dX14_line_217 rfl ?_
                            refine z_iconst hC (pc := 219) (v := Int32.ofInt 1) dX14_line_219 (by decide) ?_
                            obtain ⟨b15, h⟩ := h
                            refine y_zast hC (pc := 220) (rAr_m rfl) dX14_line_220 b15 (v := 1) (kk := ?_)
                            have W16 := Ws206.sA (p := 1037) (i := y206_8) (x := (inar .boolean 1)) (inar_rng _ _)
                            refine z_aload_n hC (pc := 221) 0 dX14_line_221 rfl rfl ?_
                            refine y_get hC (pc := 222) zf14 rOb_0 7 (v := .ref (κ (rR σ 7))) dX14_line_222 zw2475 (rv_g rfl (kJ.R rfl) g0) (kk := ?_)
                            refine y_getN hC (pc := 225) zf13 (rOb_k g0) 8 (v := .ref (κ (1000 * ((rR σ 7) + 1) + 8))) dX14_line_225 zw2326 (rv_c rfl) (kk := ?_)
                            refine z_aload_n hC (pc := 228) 0 dX14_line_228 rfl rfl ?_
                            refine y_get hC (pc := 229) zf14 rOb_0 7 (v := .ref (κ (rR σ 7))) dX14_line_229 zw2475 (rv_g rfl (kJ.R rfl) g0) (kk := ?_)
                            refine y_getN hC (pc := 232) zf13 (rOb_k g0) 9 (v := iv (rF s206 (rR σ 7) 9)) dX14_line_232 zw2328 (rv_i (Or.inl rfl) rfl) (kk := ?_)
                            have h := h (Ws206.f _ _)
                            refine z_aload_n hC (pc := 235) 0 dX14_line_235 rfl rfl ?_
                            refine y_get hC (pc := 236) zf14 rOb_0 35 (v := .ref (κ 1035)) dX14_line_236 zw2502 (rv_c rfl) (kk := ?_)
                            refine z_iload hC (pc := 239) 2 dX14_line_239 rfl ?_
                            obtain ⟨b17, h⟩ := h
                            refine y_iald hC (pc := 241) (rAr_m rfl) dX14_line_241 b17 (v := (rA s206 1035 y206_8)) ((A_sA_ne (by decide)).trans rfl) (kk := ?_)
                            have h := h (Ws206.a _ _)
                            refine y_i2b hC (pc := 242) dX14_line_242 ?_
                            obtain ⟨b18, h⟩ := h
                            refine y_bast hC (pc := 243) (rAr_k g0 rfl rfl) dX14_line_243 b18 (v := (f_i2b (rA s206 1035 y206_8))) (kk := ?_)
                            have W19 := W16.sA (p := (1000 * ((rR σ 7) + 1) + 8)) (i := (rF s206 (rR σ 7) 9)) (x := (inar .byte (f_i2b (rA s206 1035 y206_8)))) (inar_rng _ _)
                            refine z_aload_n hC (pc := 244) 0 dX14_line_244 rfl rfl ?_
                            refine y_get hC (pc := 245) zf14 rOb_0 7 (v := .ref (κ (rR σ 7))) dX14_line_245 zw2475 (rv_g rfl (kJ.R rfl) g0) (kk := ?_)
                            refine z_dup hC (pc := 248) dX14_line_248 rfl ?_
                            refine y_getN hC (pc := 249) zf13 (rOb_k g0) 9 (v := iv (rF s206 (rR σ 7) 9)) dX14_line_249 zw2328 (rv_i (Or.inl rfl) rfl) (kk := ?_)
                            refine z_iconst hC (pc := 252) (v := Int32.ofInt 1) dX14_line_252 (by decide) ?_
                            refine y_iadd hC (pc := 253) (v := ((rF s206 (rR σ 7) 9) + 1)) dX14_line_253 rfl ?_
                            obtain ⟨r20, h⟩ := h
                            refine y_putIN hC (pc := 254) zf13 (rOb_k g0) 9 (x := ((rF s206 (rR σ 7) 9) + 1)) dX14_line_254 zw2328 (Or.inl rfl) rfl rfl (kk := ?_)
                            have W21 := W19.sF (q := (rR σ 7)) (f := 9) (x := ((rF s206 (rR σ 7) 9) + 1)) r20
                            refine y_iinc hC (pc := 257) (v := (y206_8 + 1)) (lv' := [(8, iv (y206_8 + 1)), (0, .ref (κ 0)), (5, iv y206_5)]) 2 dX14_line_257 rfl rfl (by decide) rfl ?_
                            refine z_goto hC (pc := 260) 206 dX14_line_260 (by decide) ?_
                            refine z_lvs [1, 2, 0] rfl ?_
                            obtain ⟨r22, h⟩ := h
                            obtain ⟨hI, hm⟩ := h
                            exact ih206 (sF (sA (sA s206 1037 y206_8 (inar .boolean 1)) (1000 * ((rR σ 7) + 1) + 8) (rF s206 (rR σ 7) 9) (inar .byte (f_i2b (rA s206 1035 y206_8)))) (rR σ 7) 9 ((rF s206 (rR σ 7) 9) + 1)) y206_5 (y206_8 + 1) W21 hy206_5 r22 (rKeep.tr (rKeep.tr (rKeep.tr (rKeep.tr rKeep.rf kJ rfl rfl rfl rfl rfl) (rKeep.sA0 (f := 37) (by decide)) rfl rfl rfl rfl rfl) (rKeep.sAk (f := 8) g0 (by decide)) rfl rfl rfl rfl rfl) (rKeep.sFk (f := 9) g0) rfl rfl rfl rfl rfl) hI (by omega)
                      refine z_lvs [3, 6, 0] rfl ?_
                      exact j206 _ (sT s104 (rR σ 7) 4 (rA s104 1035 y104_5) (((4096 * (rF s104 (rR σ 7) 9)) + y104_5) - x1)) y104_5 x1 W14 hy104_5 hx1 (rKeep.tr (rKeep.tr rKeep.rf kJ rfl rfl rfl rfl rfl) (rKeep.sAk (f := 4) g0 (by decide)) rfl rfl rfl rfl rfl) h (Nat.le_refl _)
                    · have h := hF c
                      refine z_iload hC (pc := 153) 0 dX14_line_153 rfl ?_
                      refine z_bipush hC (pc := 155) (v := Int32.ofInt 6) dX14_line_155 (by decide) ?_
                      obtain ⟨hT, hF⟩ := h
                      refine y_icmp_eq hC (pc := 157) 168 (Ws104.a _ _) (r_lit rfl) dX14_line_157 (by decide) (fun c => ?_) (fun c => ?_)
                      · have h := hT c
                        refine z_aload_n hC (pc := 168) 1 dX14_line_168 rfl rfl ?_
                        refine y_get hC (pc := 169) zf14 rOb_0 35 (v := .ref (κ 1035)) dX14_line_169 zw2502 (rv_c rfl) (kk := ?_)
                        refine z_iload hC (pc := 172) 4 dX14_line_172 rfl ?_
                        obtain ⟨b23, h⟩ := h
                        refine y_iald hC (pc := 174) (rAr_m rfl) dX14_line_174 b23 (v := (rA s104 1035 y104_5)) rfl (kk := ?_)
                        have h := h (Ws104.a _ _)
                        refine z_istore hC (pc := 175) (lv' := [(7, iv (rA s104 1035 y104_5)), (6, iv (rA s104 1034 y104_5)), (0, .ref (κ 0)), (1, iv x1), (2, iv x2), (5, iv y104_5)]) dX14_line_175 (by decide) rfl ?_
                        refine z_aload_n hC (pc := 177) 2 dX14_line_177 rfl rfl ?_
                        refine y_get hC (pc := 178) zf14 rOb_0 7 (v := .ref (κ (rR σ 7))) dX14_line_178 zw2475 (rv_g rfl (kJ.R rfl) g0) (kk := ?_)
                        refine y_getN hC (pc := 181) zf13 (rOb_k g0) 4 (v := .ref (κ (1000 * ((rR σ 7) + 1) + 4))) dX14_line_181 zw2318 (rv_c rfl) (kk := ?_)
                        refine z_iload hC (pc := 184) 0 dX14_line_184 rfl ?_
                        refine z_sipush hC (pc := 186) (v := Int32.ofInt 4096) dX14_line_186 (by decide) ?_
                        refine z_aload_n hC (pc := 189) 2 dX14_line_189 rfl rfl ?_
                        refine y_get hC (pc := 190) zf14 rOb_0 7 (v := .ref (κ (rR σ 7))) dX14_line_190 zw2475 (rv_g rfl (kJ.R rfl) g0) (kk := ?_)
                        refine y_getN hC (pc := 193) zf13 (rOb_k g0) 9 (v := iv (rF s104 (rR σ 7) 9)) dX14_line_193 zw2328 (rv_i (Or.inl rfl) rfl) (kk := ?_)
                        have h := h (Ws104.f _ _)
                        refine y_imul hC (pc := 196) (v := (4096 * (rF s104 (rR σ 7) 9))) dX14_line_196 rfl ?_
                        refine z_iload hC (pc := 197) 5 dX14_line_197 rfl ?_
                        refine y_iadd hC (pc := 199) (v := ((4096 * (rF s104 (rR σ 7) 9)) + y104_5)) dX14_line_199 rfl ?_
                        refine z_iload_n hC (pc := 200) 3 dX14_line_200 rfl rfl ?_
                        refine y_isub hC (pc := 201) (v := (((4096 * (rF s104 (rR σ 7) 9)) + y104_5) - x1)) dX14_line_201 rfl ?_
                        obtain ⟨b24, h⟩ := h
                        obtain ⟨r25, h⟩ := h
                        refine y_iast hC (pc := 202) (rAr_k g0 rfl rfl) dX14_line_202 b24 (v := (((4096 * (rF s104 (rR σ 7) 9)) + y104_5) - x1)) (kk := ?_)
                        have W26 := Ws104.sA (p := (1000 * ((rR σ 7) + 1) + 4)) (i := (rA s104 1035 y104_5)) (x := (((4096 * (rF s104 (rR σ 7) 9)) + y104_5) - x1)) r25
                        refine z_iload_n hC (pc := 203) 3 dX14_line_203 rfl rfl ?_
                        refine z_istore hC (pc := 204) (lv' := [(8, iv x1), (7, iv (rA s104 1035 y104_5)), (6, iv (rA s104 1034 y104_5)), (0, .ref (κ 0)), (1, iv x1), (2, iv x2), (5, iv y104_5)]) dX14_line_204 (by decide) rfl ?_
                        have j206 : ∀ (d206 : Nat), ∀ (s206 : rS) (y206_5 : Int) (y206_8 : Int), rWF s206 → rng y206_5 → rng y206_8 → rKeep 0 0x200 0x2000000000 0x110 0 σ s206 → inv_X14_line_w_206 σ x1 x2 gg g nn s206 y206_5 y206_8 → (mu_X14_line_w_206 σ x1 x2 gg g nn s206 y206_5 y206_8) ≤ d206 → zS X G 9 (rW G κ s206) [(0, .ref (κ 0)), (5, iv y206_5), (8, iv y206_8)] 0 0 206 [] := by
                          intro d206
                          induction d206 with
                          | zero =>
                            intro s206 y206_5 y206_8 Ws206 hy206_5 hy206_8 kJ hI hmu
                            exact absurd hmu (by have := h_206m  s206 y206_5 y206_8 Ws206 hy206_5 hy206_8 (kJ.R rfl) (kJ.F rfl) (kJ.F rfl) (fun i => kJ.A (f := 34) (by decide) rfl) (fun i => kJ.A (f := 35) (by decide) rfl) (fun i => kJ.A (f := 36) (by decide) rfl) (kJ.FG g0 rfl) (kJ.FG g0 rfl) (kJ.FG g0 rfl) hI; omega)
                          | succ d206 ih206 =>
                            intro s206 y206_5 y206_8 Ws206 hy206_5 hy206_8 kJ hI hmu206
                            have h := h_206  s206 y206_5 y206_8 Ws206 hy206_5 hy206_8 (kJ.R rfl) (kJ.F rfl) (kJ.F rfl) (fun i => kJ.A (f := 34) (by decide) rfl) (fun i => kJ.A (f := 35) (by decide) rfl) (fun i => kJ.A (f := 36) (by decide) rfl) (kJ.FG g0 rfl) (kJ.FG g0 rfl) (kJ.FG g0 rfl) hI
                            refine z_iload hC (pc := 206) 2 dX14_line_206 rfl ?_
                            refine z_iload hC (pc := 208) 1 dX14_line_208 rfl ?_
                            obtain ⟨hT, hF⟩ := h
                            refine y_icmp_ge hC (pc := 210) 263 hy206_8 hy206_5 dX14_line_210 (by decide) (fun c => ?_) (fun c => ?_)
                            · have h := hT c
                              exact y_retv hR dX14_line_263 Ws206 (Nat.le_of_ble_eq_true rfl) (Nat.le_of_ble_eq_true rfl) ⟨(rKeep.tr rKeep.rf kJ rfl rfl rfl rfl rfl), h⟩
                            · have h := hF c
                              refine z_aload_n hC (pc := 213) 0 dX14_line_213 rfl rfl ?_
                              refine y_get hC (pc := 214) zf14 rOb_0 37 (v := .ref (κ 1037)) dX14_line_214 zw2504 (rv_c rfl) (kk := ?_)
                              refine z_iload hC (pc := 217) 2 dX14_line_217 rfl ?_
                              refine z_iconst hC (pc := 219) (v := Int32.ofInt 1) dX14_line_219 (by decide) ?_
                              obtain ⟨b27, h⟩ := h
                              refine y_zast hC (pc := 220) (rAr_m rfl) dX14_line_220 b27 (v := 1) (kk := ?_)
                              have W28 := Ws206.sA (p := 1037) (i := y206_8) (x := (inar .boolean 1)) (inar_rng _ _)
                              refine z_aload_n hC (pc := 221) 0 dX14_line_221 rfl rfl ?_
                              refine y_get hC (pc := 222) zf14 rOb_0 7 (v := .ref (κ (rR σ 7))) dX14_line_222 zw2475 (rv_g rfl (kJ.R rfl) g0) (kk := ?_)
                              refine y_getN hC (pc := 225) zf13 (rOb_k g0) 8 (v := .ref (κ (1000 * ((rR σ 7) + 1) + 8))) dX14_line_225 zw2326 (rv_c rfl) (kk := ?_)
                              refine z_aload_n hC (pc := 228) 0 dX14_line_228 rfl rfl ?_
                              refine y_get hC (pc := 229) zf14 rOb_0 7 (v := .ref (κ (rR σ 7))) dX14_line_229 zw2475 (rv_g rfl (kJ.R rfl) g0) (kk := ?_)
                              refine y_getN hC (pc := 232) zf13 (rOb_k g0) 9 (v := iv (rF s206 (rR σ 7) 9)) dX14_line_232 zw2328 (rv_i (Or.inl rfl) rfl) (kk := ?_)
                              have h := h (Ws206.f _ _)
                              refine z_aload_n hC (pc := 235) 0 dX14_line_235 rfl rfl ?_
                              refine y_get hC (pc := 236) zf14 rOb_0 35 (v := .ref (κ 1035)) dX14_line_236 zw2502 (rv_c rfl) (kk := ?_)
                              refine z_iload hC (pc := 239) 2 dX14_line_239 rfl ?_
                              obtain ⟨b29, h⟩ := h
                              refine y_iald hC (pc := 241) (rAr_m rfl) dX14_line_241 b29 (v := (rA s206 1035 y206_8)) ((A_sA_ne (by decide)).trans rfl) (kk := ?_)
                              have h := h (Ws206.a _ _)
                              refine y_i2b hC (pc := 242) dX14_line_242 ?_
                              obtain ⟨b30, h⟩ := h
                              refine y_bast hC (pc := 243) (rAr_k g0 rfl rfl) dX14_line_243 b30 (v := (f_i2b (rA s206 1035 y206_8))) (kk := ?_)
                              have W31 := W28.sA (p := (1000 * ((rR σ 7) + 1) + 8)) (i := (rF s206 (rR σ 7) 9)) (x := (inar .byte (f_i2b (rA s206 1035 y206_8)))) (inar_rng _ _)
                              refine z_aload_n hC (pc := 244) 0 dX14_line_244 rfl rfl ?_
                              refine y_get hC (pc := 245) zf14 rOb_0 7 (v := .ref (κ (rR σ 7))) dX14_line_245 zw2475 (rv_g rfl (kJ.R rfl) g0) (kk := ?_)
                              refine z_dup hC (pc := 248) dX14_line_248 rfl ?_
                              refine y_getN hC (pc := 249) zf13 (rOb_k g0) 9 (v := iv (rF s206 (rR σ 7) 9)) dX14_line_249 zw2328 (rv_i (Or.inl rfl) rfl) (kk := ?_)
                              refine z_iconst hC (pc := 252) (v := Int32.ofInt 1) dX14_line_252 (by decide) ?_
                              refine y_iadd hC (pc := 253) (v := ((rF s206 (rR σ 7) 9) + 1)) dX14_line_253 rfl ?_
                              obtain ⟨r32, h⟩ := h
                              refine y_putIN hC (pc := 254) zf13 (rOb_k g0) 9 (x := ((rF s206 (rR σ 7) 9) + 1)) dX14_line_254 zw2328 (Or.inl rfl) rfl rfl (kk := ?_)
                              have W33 := W31.sF (q := (rR σ 7)) (f := 9) (x := ((rF s206 (rR σ 7) 9) + 1)) r32
                              refine y_iinc hC (pc := 257) (v := (y206_8 + 1)) (lv' := [(8, iv (y206_8 + 1)), (0, .ref (κ 0)), (5, iv y206_5)]) 2 dX14_line_257 rfl rfl (by decide) rfl ?_
                              refine z_goto hC (pc := 260) 206 dX14_line_260 (by decide) ?_
                              refine z_lvs [1, 2, 0] rfl ?_
                              obtain ⟨r34, h⟩ := h
                              obtain ⟨hI, hm⟩ := h
                              exact ih206 (sF (sA (sA s206 1037 y206_8 (inar .boolean 1)) (1000 * ((rR σ 7) + 1) + 8) (rF s206 (rR σ 7) 9) (inar .byte (f_i2b (rA s206 1035 y206_8)))) (rR σ 7) 9 ((rF s206 (rR σ 7) 9) + 1)) y206_5 (y206_8 + 1) W33 hy206_5 r34 (rKeep.tr (rKeep.tr (rKeep.tr (rKeep.tr rKeep.rf kJ rfl rfl rfl rfl rfl) (rKeep.sA0 (f := 37) (by decide)) rfl rfl rfl rfl rfl) (rKeep.sAk (f := 8) g0 (by decide)) rfl rfl rfl rfl rfl) (rKeep.sFk (f := 9) g0) rfl rfl rfl rfl rfl) hI (by omega)
                        refine z_lvs [3, 6, 0] rfl ?_
                        exact j206 _ (sT s104 (rR σ 7) 4 (rA s104 1035 y104_5) (((4096 * (rF s104 (rR σ 7) 9)) + y104_5) - x1)) y104_5 x1 W26 hy104_5 hx1 (rKeep.tr (rKeep.tr rKeep.rf kJ rfl rfl rfl rfl rfl) (rKeep.sAk (f := 4) g0 (by decide)) rfl rfl rfl rfl rfl) h (Nat.le_refl _)
                      · have h := hF c
                        refine z_iload hC (pc := 160) 0 dX14_line_160 rfl ?_
                        refine z_bipush hC (pc := 162) (v := Int32.ofInt 7) dX14_line_162 (by decide) ?_
                        obtain ⟨hT, hF⟩ := h
                        refine y_icmp_eq hC (pc := 164) 168 (Ws104.a _ _) (r_lit rfl) dX14_line_164 (by decide) (fun c => ?_) (fun c => ?_)
                        · have h := hT c
                          refine z_aload_n hC (pc := 168) 1 dX14_line_168 rfl rfl ?_
                          refine y_get hC (pc := 169) zf14 rOb_0 35 (v := .ref (κ 1035)) dX14_line_169 zw2502 (rv_c rfl) (kk := ?_)
                          refine z_iload hC (pc := 172) 4 dX14_line_172 rfl ?_
                          obtain ⟨b35, h⟩ := h
                          refine y_iald hC (pc := 174) (rAr_m rfl) dX14_line_174 b35 (v := (rA s104 1035 y104_5)) rfl (kk := ?_)
                          have h := h (Ws104.a _ _)
                          refine z_istore hC (pc := 175) (lv' := [(7, iv (rA s104 1035 y104_5)), (6, iv (rA s104 1034 y104_5)), (0, .ref (κ 0)), (1, iv x1), (2, iv x2), (5, iv y104_5)]) dX14_line_175 (by decide) rfl ?_
                          refine z_aload_n hC (pc := 177) 2 dX14_line_177 rfl rfl ?_
                          refine y_get hC (pc := 178) zf14 rOb_0 7 (v := .ref (κ (rR σ 7))) dX14_line_178 zw2475 (rv_g rfl (kJ.R rfl) g0) (kk := ?_)
                          refine y_getN hC (pc := 181) zf13 (rOb_k g0) 4 (v := .ref (κ (1000 * ((rR σ 7) + 1) + 4))) dX14_line_181 zw2318 (rv_c rfl) (kk := ?_)
                          refine z_iload hC (pc := 184) 0 dX14_line_184 rfl ?_
                          refine z_sipush hC (pc := 186) (v := Int32.ofInt 4096) dX14_line_186 (by decide) ?_
                          refine z_aload_n hC (pc := 189) 2 dX14_line_189 rfl rfl ?_
                          refine y_get hC (pc := 190) zf14 rOb_0 7 (v := .ref (κ (rR σ 7))) dX14_line_190 zw2475 (rv_g rfl (kJ.R rfl) g0) (kk := ?_)
                          refine y_getN hC (pc := 193) zf13 (rOb_k g0) 9 (v := iv (rF s104 (rR σ 7) 9)) dX14_line_193 zw2328 (rv_i (Or.inl rfl) rfl) (kk := ?_)
                          have h := h (Ws104.f _ _)
                          refine y_imul hC (pc := 196) (v := (4096 * (rF s104 (rR σ 7) 9))) dX14_line_196 rfl ?_
                          refine z_iload hC (pc := 197) 5 dX14_line_197 rfl ?_
                          refine y_iadd hC (pc := 199) (v := ((4096 * (rF s104 (rR σ 7) 9)) + y104_5)) dX14_line_199 rfl ?_
                          refine z_iload_n hC (pc := 200) 3 dX14_line_200 rfl rfl ?_
                          refine y_isub hC (pc := 201) (v := (((4096 * (rF s104 (rR σ 7) 9)) + y104_5) - x1)) dX14_line_201 rfl ?_
                          obtain ⟨b36, h⟩ := h
                          obtain ⟨r37, h⟩ := h
                          refine y_iast hC (pc := 202) (rAr_k g0 rfl rfl) dX14_line_202 b36 (v := (((4096 * (rF s104 (rR σ 7) 9)) + y104_5) - x1)) (kk := ?_)
                          have W38 := Ws104.sA (p := (1000 * ((rR σ 7) + 1) + 4)) (i := (rA s104 1035 y104_5)) (x := (((4096 * (rF s104 (rR σ 7) 9)) + y104_5) - x1)) r37
                          refine z_iload_n hC (pc := 203) 3 dX14_line_203 rfl rfl ?_
                          refine z_istore hC (pc := 204) (lv' := [(8, iv x1), (7, iv (rA s104 1035 y104_5)), (6, iv (rA s104 1034 y104_5)), (0, .ref (κ 0)), (1, iv x1), (2, iv x2), (5, iv y104_5)]) dX14_line_204 (by decide) rfl ?_
                          have j206 : ∀ (d206 : Nat), ∀ (s206 : rS) (y206_5 : Int) (y206_8 : Int), rWF s206 → rng y206_5 → rng y206_8 → rKeep 0 0x200 0x2000000000 0x110 0 σ s206 → inv_X14_line_w_206 σ x1 x2 gg g nn s206 y206_5 y206_8 → (mu_X14_line_w_206 σ x1 x2 gg g nn s206 y206_5 y206_8) ≤ d206 → zS X G 9 (rW G κ s206) [(0, .ref (κ 0)), (5, iv y206_5), (8, iv y206_8)] 0 0 206 [] := by
                            intro d206
                            induction d206 with
                            | zero =>
                              intro s206 y206_5 y206_8 Ws206 hy206_5 hy206_8 kJ hI hmu
                              exact absurd hmu (by have := h_206m  s206 y206_5 y206_8 Ws206 hy206_5 hy206_8 (kJ.R rfl) (kJ.F rfl) (kJ.F rfl) (fun i => kJ.A (f := 34) (by decide) rfl) (fun i => kJ.A (f := 35) (by decide) rfl) (fun i => kJ.A (f := 36) (by decide) rfl) (kJ.FG g0 rfl) (kJ.FG g0 rfl) (kJ.FG g0 rfl) hI; omega)
                            | succ d206 ih206 =>
                              intro s206 y206_5 y206_8 Ws206 hy206_5 hy206_8 kJ hI hmu206
                              have h := h_206  s206 y206_5 y206_8 Ws206 hy206_5 hy206_8 (kJ.R rfl) (kJ.F rfl) (kJ.F rfl) (fun i => kJ.A (f := 34) (by decide) rfl) (fun i => kJ.A (f := 35) (by decide) rfl) (fun i => kJ.A (f := 36) (by decide) rfl) (kJ.FG g0 rfl) (kJ.FG g0 rfl) (kJ.FG g0 rfl) hI
                              refine z_iload hC (pc := 206) 2 dX14_line_206 rfl ?_
                              refine z_iload hC (pc := 208) 1 dX14_line_208 rfl ?_
                              obtain ⟨hT, hF⟩ := h
                              refine y_icmp_ge hC (pc := 210) 263 hy206_8 hy206_5 dX14_line_210 (by decide) (fun c => ?_) (fun c => ?_)
                              · have h := hT c
                                exact y_retv hR dX14_line_263 Ws206 (Nat.le_of_ble_eq_true rfl) (Nat.le_of_ble_eq_true rfl) ⟨(rKeep.tr rKeep.rf kJ rfl rfl rfl rfl rfl), h⟩
                              · have h := hF c
                                refine z_aload_n hC (pc := 213) 0 dX14_line_213 rfl rfl ?_
                                refine y_get hC (pc := 214) zf14 rOb_0 37 (v := .ref (κ 1037)) dX14_line_214 zw2504 (rv_c rfl) (kk := ?_)
                                refine z_iload hC (pc := 217) 2 dX14_line_217 rfl ?_
                                refine z_iconst hC (pc := 219) (v := Int32.ofInt 1) dX14_line_219 (by decide) ?_
                                obtain ⟨b39, h⟩ := h
                                refine y_zast hC (pc := 220) (rAr_m rfl) dX14_line_220 b39 (v := 1) (kk := ?_)
                                have W40 := Ws206.sA (p := 1037) (i := y206_8) (x := (inar .boolean 1)) (inar_rng _ _)
                                refine z_aload_n hC (pc := 221) 0 dX14_line_221 rfl rfl ?_
                                refine y_get hC (pc := 222) zf14 rOb_0 7 (v := .ref (κ (rR σ 7))) dX14_line_222 zw2475 (rv_g rfl (kJ.R rfl) g0) (kk := ?_)
                                refine y_getN hC (pc := 225) zf13 (rOb_k g0) 8 (v := .ref (κ (1000 * ((rR σ 7) + 1) + 8))) dX14_line_225 zw2326 (rv_c rfl) (kk := ?_)
                                refine z_aload_n hC (pc := 228) 0 dX14_line_228 rfl rfl ?_
                                refine y_get hC (pc := 229) zf14 rOb_0 7 (v := .ref (κ (rR σ 7))) dX14_line_229 zw2475 (rv_g rfl (kJ.R rfl) g0) (kk := ?_)
                                refine y_getN hC (pc := 232) zf13 (rOb_k g0) 9 (v := iv (rF s206 (rR σ 7) 9)) dX14_line_232 zw2328 (rv_i (Or.inl rfl) rfl) (kk := ?_)
                                have h := h (Ws206.f _ _)
                                refine z_aload_n hC (pc := 235) 0 dX14_line_235 rfl rfl ?_
                                refine y_get hC (pc := 236) zf14 rOb_0 35 (v := .ref (κ 1035)) dX14_line_236 zw2502 (rv_c rfl) (kk := ?_)
                                refine z_iload hC (pc := 239) 2 dX14_line_239 rfl ?_
                                obtain ⟨b41, h⟩ := h
                                refine y_iald hC (pc := 241) (rAr_m rfl) dX14_line_241 b41 (v := (rA s206 1035 y206_8)) ((A_sA_ne (by decide)).trans rfl) (kk := ?_)
                                have h := h (Ws206.a _ _)
                                refine y_i2b hC (pc := 242) dX14_line_242 ?_
                                obtain ⟨b42, h⟩ := h
                                refine y_bast hC (pc := 243) (rAr_k g0 rfl rfl) dX14_line_243 b42 (v := (f_i2b (rA s206 1035 y206_8))) (kk := ?_)
                                have W43 := W40.sA (p := (1000 * ((rR σ 7) + 1) + 8)) (i := (rF s206 (rR σ 7) 9)) (x := (inar .byte (f_i2b (rA s206 1035 y206_8)))) (inar_rng _ _)
                                refine z_aload_n hC (pc := 244) 0 dX14_line_244 rfl rfl ?_
                                refine y_get hC (pc := 245) zf14 rOb_0 7 (v := .ref (κ (rR σ 7))) dX14_line_245 zw2475 (rv_g rfl (kJ.R rfl) g0) (kk := ?_)
                                refine z_dup hC (pc := 248) dX14_line_248 rfl ?_
                                refine y_getN hC (pc := 249) zf13 (rOb_k g0) 9 (v := iv (rF s206 (rR σ 7) 9)) dX14_line_249 zw2328 (rv_i (Or.inl rfl) rfl) (kk := ?_)
                                refine z_iconst hC (pc := 252) (v := Int32.ofInt 1) dX14_line_252 (by decide) ?_
                                refine y_iadd hC (pc := 253) (v := ((rF s206 (rR σ 7) 9) + 1)) dX14_line_253 rfl ?_
                                obtain ⟨r44, h⟩ := h
                                refine y_putIN hC (pc := 254) zf13 (rOb_k g0) 9 (x := ((rF s206 (rR σ 7) 9) + 1)) dX14_line_254 zw2328 (Or.inl rfl) rfl rfl (kk := ?_)
                                have W45 := W43.sF (q := (rR σ 7)) (f := 9) (x := ((rF s206 (rR σ 7) 9) + 1)) r44
                                refine y_iinc hC (pc := 257) (v := (y206_8 + 1)) (lv' := [(8, iv (y206_8 + 1)), (0, .ref (κ 0)), (5, iv y206_5)]) 2 dX14_line_257 rfl rfl (by decide) rfl ?_
                                refine z_goto hC (pc := 260) 206 dX14_line_260 (by decide) ?_
                                refine z_lvs [1, 2, 0] rfl ?_
                                obtain ⟨r46, h⟩ := h
                                obtain ⟨hI, hm⟩ := h
                                exact ih206 (sF (sA (sA s206 1037 y206_8 (inar .boolean 1)) (1000 * ((rR σ 7) + 1) + 8) (rF s206 (rR σ 7) 9) (inar .byte (f_i2b (rA s206 1035 y206_8)))) (rR σ 7) 9 ((rF s206 (rR σ 7) 9) + 1)) y206_5 (y206_8 + 1) W45 hy206_5 r46 (rKeep.tr (rKeep.tr (rKeep.tr (rKeep.tr rKeep.rf kJ rfl rfl rfl rfl rfl) (rKeep.sA0 (f := 37) (by decide)) rfl rfl rfl rfl rfl) (rKeep.sAk (f := 8) g0 (by decide)) rfl rfl rfl rfl rfl) (rKeep.sFk (f := 9) g0) rfl rfl rfl rfl rfl) hI (by omega)
                          refine z_lvs [3, 6, 0] rfl ?_
                          exact j206 _ (sT s104 (rR σ 7) 4 (rA s104 1035 y104_5) (((4096 * (rF s104 (rR σ 7) 9)) + y104_5) - x1)) y104_5 x1 W38 hy104_5 hx1 (rKeep.tr (rKeep.tr rKeep.rf kJ rfl rfl rfl rfl rfl) (rKeep.sAk (f := 4) g0 (by decide)) rfl rfl rfl rfl rfl) h (Nat.le_refl _)
                        · have h := hF c
                          exact y_retv hR dX14_line_167 Ws104 (Nat.le_of_ble_eq_true rfl) (Nat.le_of_ble_eq_true rfl) ⟨(rKeep.tr rKeep.rf kJ rfl rfl rfl rfl rfl), h⟩
                  · have h := hF c
                    exact y_retv hR dX14_line_137 Ws104 (Nat.le_of_ble_eq_true rfl) (Nat.le_of_ble_eq_true rfl) ⟨(rKeep.tr rKeep.rf kJ rfl rfl rfl rfl rfl), h⟩
              · have h := hF c
                refine z_aload_n hC (pc := 110) 0 dX14_line_110 rfl rfl ?_
                refine z_iload hC (pc := 111) 3 dX14_line_111 rfl ?_
                obtain ⟨p47, h⟩ := h
                refine y_callVi hC (pc := 113) (As := [iv y104_5]) (kX14_isSpace l G κ s104 y104_5 Ws104 hy104_5 p47) dmX14_isSpace zf14 rOb_0 dX14_line_113 zw3299 rfl rfl (Nat.le_of_ble_eq_true rfl) (Nat.le_of_ble_eq_true rfl) (Nat.le_of_ble_eq_true rfl) (Nat.le_of_ble_eq_true rfl) (Nat.le_of_ble_eq_true rfl) (kk := fun v113 s113 hv113 Ws113 qs113 => ?_)
                obtain ⟨es113, qs113⟩ := qs113
                have es113 := es113.symm
                subst es113
                have h := h v113 hv113 qs113
                obtain ⟨hT, hF⟩ := h
                refine y_if_eq hC (pc := 116) 125 hv113 dX14_line_116 (by decide) (fun c => ?_) (fun c => ?_)
                · have h := hT c
                  refine z_iload hC (pc := 125) 3 dX14_line_125 rfl ?_
                  refine z_iload_n hC (pc := 127) 1 dX14_line_127 rfl rfl ?_
                  obtain ⟨hT, hF⟩ := h
                  refine y_icmp_eq hC (pc := 128) 137 hy104_5 hx1 dX14_line_128 (by decide) (fun c => ?_) (fun c => ?_)
                  · have h := hT c
                    exact y_retv hR dX14_line_137 Ws104 (Nat.le_of_ble_eq_true rfl) (Nat.le_of_ble_eq_true rfl) ⟨(rKeep.tr rKeep.rf kJ rfl rfl rfl rfl rfl), h⟩
                  · have h := hF c
                    refine z_iload hC (pc := 131) 3 dX14_line_131 rfl ?_
                    refine z_iload_n hC (pc := 133) 2 dX14_line_133 rfl rfl ?_
                    obtain ⟨hT, hF⟩ := h
                    refine y_icmp_ne hC (pc := 134) 138 hy104_5 hx2 dX14_line_134 (by decide) (fun c => ?_) (fun c => ?_)
                    · have h := hT c
                      refine z_aload_n hC (pc := 138) 0 dX14_line_138 rfl rfl ?_
                      refine y_get hC (pc := 139) zf14 rOb_0 34 (v := .ref (κ 1034)) dX14_line_139 zw2501 (rv_c rfl) (kk := ?_)
                      refine z_iload hC (pc := 142) 3 dX14_line_142 rfl ?_
                      obtain ⟨b48, h⟩ := h
                      refine y_iald hC (pc := 144) (rAr_m rfl) dX14_line_144 b48 (v := (rA s104 1034 y104_5)) rfl (kk := ?_)
                      have h := h (Ws104.a _ _)
                      refine z_istore hC (pc := 145) (lv' := [(6, iv (rA s104 1034 y104_5)), (0, .ref (κ 0)), (1, iv x1), (2, iv x2), (5, iv y104_5)]) dX14_line_145 (by decide) rfl ?_
                      refine z_iload hC (pc := 147) 0 dX14_line_147 rfl ?_
                      refine z_iconst hC (pc := 149) (v := Int32.ofInt 4) dX14_line_149 (by decide) ?_
                      obtain ⟨hT, hF⟩ := h
                      refine y_icmp_eq hC (pc := 150) 168 (Ws104.a _ _) (r_lit rfl) dX14_line_150 (by decide) (fun c => ?_) (fun c => ?_)
                      · have h := hT c
                        refine z_aload_n hC (pc := 168) 1 dX14_line_168 rfl rfl ?_
                        refine y_get hC (pc := 169) zf14 rOb_0 35 (v := .ref (κ 1035)) dX14_line_169 zw2502 (rv_c rfl) (kk := ?_)
                        refine z_iload hC (pc := 172) 4 dX14_line_172 rfl ?_
                        obtain ⟨b49, h⟩ := h
                        refine y_iald hC (pc := 174) (rAr_m rfl) dX14_line_174 b49 (v := (rA s104 1035 y104_5)) rfl (kk := ?_)
                        have h := h (Ws104.a _ _)
                        refine z_istore hC (pc := 175) (lv' := [(7, iv (rA s104 1035 y104_5)), (6, iv (rA s104 1034 y104_5)), (0, .ref (κ 0)), (1, iv x1), (2, iv x2), (5, iv y104_5)]) dX14_line_175 (by decide) rfl ?_
                        refine z_aload_n hC (pc := 177) 2 dX14_line_177 rfl rfl ?_
                        refine y_get hC (pc := 178) zf14 rOb_0 7 (v := .ref (κ (rR σ 7))) dX14_line_178 zw2475 (rv_g rfl (kJ.R rfl) g0) (kk := ?_)
                        refine y_getN hC (pc := 181) zf13 (rOb_k g0) 4 (v := .ref (κ (1000 * ((rR σ 7) + 1) + 4))) dX14_line_181 zw2318 (rv_c rfl) (kk := ?_)
                        refine z_iload hC (pc := 184) 0 dX14_line_184 rfl ?_
                        refine z_sipush hC (pc := 186) (v := Int32.ofInt 4096) dX14_line_186 (by decide) ?_
                        refine z_aload_n hC (pc := 189) 2 dX14_line_189 rfl rfl ?_
                        refine y_get hC (pc := 190) zf14 rOb_0 7 (v := .ref (κ (rR σ 7))) dX14_line_190 zw2475 (rv_g rfl (kJ.R rfl) g0) (kk := ?_)
                        refine y_getN hC (pc := 193) zf13 (rOb_k g0) 9 (v := iv (rF s104 (rR σ 7) 9)) dX14_line_193 zw2328 (rv_i (Or.inl rfl) rfl) (kk := ?_)
                        have h := h (Ws104.f _ _)
                        refine y_imul hC (pc := 196) (v := (4096 * (rF s104 (rR σ 7) 9))) dX14_line_196 rfl ?_
                        refine z_iload hC (pc := 197) 5 dX14_line_197 rfl ?_
                        refine y_iadd hC (pc := 199) (v := ((4096 * (rF s104 (rR σ 7) 9)) + y104_5)) dX14_line_199 rfl ?_
                        refine z_iload_n hC (pc := 200) 3 dX14_line_200 rfl rfl ?_
                        refine y_isub hC (pc := 201) (v := (((4096 * (rF s104 (rR σ 7) 9)) + y104_5) - x1)) dX14_line_201 rfl ?_
                        obtain ⟨b50, h⟩ := h
                        obtain ⟨r51, h⟩ := h
                        refine y_iast hC (pc := 202) (rAr_k g0 rfl rfl) dX14_line_202 b50 (v := (((4096 * (rF s104 (rR σ 7) 9)) + y104_5) - x1)) (kk := ?_)
                        have W52 := Ws104.sA (p := (1000 * ((rR σ 7) + 1) + 4)) (i := (rA s104 1035 y104_5)) (x := (((4096 * (rF s104 (rR σ 7) 9)) + y104_5) - x1)) r51
                        refine z_iload_n hC (pc := 203) 3 dX14_line_203 rfl rfl ?_
                        refine z_istore hC (pc := 204) (lv' := [(8, iv x1), (7, iv (rA s104 1035 y104_5)), (6, iv (rA s104 1034 y104_5)), (0, .ref (κ 0)), (1, iv x1), (2, iv x2), (5, iv y104_5)]) dX14_line_204 (by decide) rfl ?_
                        have j206 : ∀ (d206 : Nat), ∀ (s206 : rS) (y206_5 : Int) (y206_8 : Int), rWF s206 → rng y206_5 → rng y206_8 → rKeep 0 0x200 0x2000000000 0x110 0 σ s206 → inv_X14_line_w_206 σ x1 x2 gg g nn s206 y206_5 y206_8 → (mu_X14_line_w_206 σ x1 x2 gg g nn s206 y206_5 y206_8) ≤ d206 → zS X G 9 (rW G κ s206) [(0, .ref (κ 0)), (5, iv y206_5), (8, iv y206_8)] 0 0 206 [] := by
                          intro d206
                          induction d206 with
                          | zero =>
                            intro s206 y206_5 y206_8 Ws206 hy206_5 hy206_8 kJ hI hmu
                            exact absurd hmu (by have := h_206m  s206 y206_5 y206_8 Ws206 hy206_5 hy206_8 (kJ.R rfl) (kJ.F rfl) (kJ.F rfl) (fun i => kJ.A (f := 34) (by decide) rfl) (fun i => kJ.A (f := 35) (by decide) rfl) (fun i => kJ.A (f := 36) (by decide) rfl) (kJ.FG g0 rfl) (kJ.FG g0 rfl) (kJ.FG g0 rfl) hI; omega)
                          | succ d206 ih206 =>
                            intro s206 y206_5 y206_8 Ws206 hy206_5 hy206_8 kJ hI hmu206
                            have h := h_206  s206 y206_5 y206_8 Ws206 hy206_5 hy206_8 (kJ.R rfl) (kJ.F rfl) (kJ.F rfl) (fun i => kJ.A (f := 34) (by decide) rfl) (fun i => kJ.A (f := 35) (by decide) rfl) (fun i => kJ.A (f := 36) (by decide) rfl) (kJ.FG g0 rfl) (kJ.FG g0 rfl) (kJ.FG g0 rfl) hI
                            refine z_iload hC (pc := 206) 2 dX14_line_206 rfl ?_
                            refine z_iload hC (pc := 208) 1 dX14_line_208 rfl ?_
                            obtain ⟨hT, hF⟩ := h
                            refine y_icmp_ge hC (pc := 210) 263 hy206_8 hy206_5 dX14_line_210 (by decide) (fun c => ?_) (fun c => ?_)
                            · have h := hT c
                              exact y_retv hR dX14_line_263 Ws206 (Nat.le_of_ble_eq_true rfl) (Nat.le_of_ble_eq_true rfl) ⟨(rKeep.tr rKeep.rf kJ rfl rfl rfl rfl rfl), h⟩
                            · have h := hF c
                              refine z_aload_n hC (pc := 213) 0 dX14_line_213 rfl rfl ?_
                              refine y_get hC (pc := 214) zf14 rOb_0 37 (v := .ref (κ 1037)) dX14_line_214 zw2504 (rv_c rfl) (kk := ?_)
                              refine z_iload hC (pc := 217) 2 dX14_line_217 rfl ?_
                              refine z_iconst hC (pc := 219) (v := Int32.ofInt 1) dX14_line_219 (by decide) ?_
                              obtain ⟨b53, h⟩ := h
                              refine y_zast hC (pc := 220) (rAr_m rfl) dX14_line_220 b53 (v := 1) (kk := ?_)
                              have W54 := Ws206.sA (p := 1037) (i := y206_8) (x := (inar .boolean 1)) (inar_rng _ _)
                              refine z_aload_n hC (pc := 221) 0 dX14_line_221 rfl rfl ?_
                              refine y_get hC (pc := 222) zf14 rOb_0 7 (v := .ref (κ (rR σ 7))) dX14_line_222 zw2475 (rv_g rfl (kJ.R rfl) g0) (kk := ?_)
                              refine y_getN hC (pc := 225) zf13 (rOb_k g0) 8 (v := .ref (κ (1000 * ((rR σ 7) + 1) + 8))) dX14_line_225 zw2326 (rv_c rfl) (kk := ?_)
                              refine z_aload_n hC (pc := 228) 0 dX14_line_228 rfl rfl ?_
                              refine y_get hC (pc := 229) zf14 rOb_0 7 (v := .ref (κ (rR σ 7))) dX14_line_229 zw2475 (rv_g rfl (kJ.R rfl) g0) (kk := ?_)
                              refine y_getN hC (pc := 232) zf13 (rOb_k g0) 9 (v := iv (rF s206 (rR σ 7) 9)) dX14_line_232 zw2328 (rv_i (Or.inl rfl) rfl) (kk := ?_)
                              have h := h (Ws206.f _ _)
                              refine z_aload_n hC (pc := 235) 0 dX14_line_235 rfl rfl ?_
                              refine y_get hC (pc := 236) zf14 rOb_0 35 (v := .ref (κ 1035)) dX14_line_236 zw2502 (rv_c rfl) (kk := ?_)
                              refine z_iload hC (pc := 239) 2 dX14_line_239 rfl ?_
                              obtain ⟨b55, h⟩ := h
                              refine y_iald hC (pc := 241) (rAr_m rfl) dX14_line_241 b55 (v := (rA s206 1035 y206_8)) ((A_sA_ne (by decide)).trans rfl) (kk := ?_)
                              have h := h (Ws206.a _ _)
                              refine y_i2b hC (pc := 242) dX14_line_242 ?_
                              obtain ⟨b56, h⟩ := h
                              refine y_bast hC (pc := 243) (rAr_k g0 rfl rfl) dX14_line_243 b56 (v := (f_i2b (rA s206 1035 y206_8))) (kk := ?_)
                              have W57 := W54.sA (p := (1000 * ((rR σ 7) + 1) + 8)) (i := (rF s206 (rR σ 7) 9)) (x := (inar .byte (f_i2b (rA s206 1035 y206_8)))) (inar_rng _ _)
                              refine z_aload_n hC (pc := 244) 0 dX14_line_244 rfl rfl ?_
                              refine y_get hC (pc := 245) zf14 rOb_0 7 (v := .ref (κ (rR σ 7))) dX14_line_245 zw2475 (rv_g rfl (kJ.R rfl) g0) (kk := ?_)
                              refine z_dup hC (pc := 248) dX14_line_248 rfl ?_
                              refine y_getN hC (pc := 249) zf13 (rOb_k g0) 9 (v := iv (rF s206 (rR σ 7) 9)) dX14_line_249 zw2328 (rv_i (Or.inl rfl) rfl) (kk := ?_)
                              refine z_iconst hC (pc := 252) (v := Int32.ofInt 1) dX14_line_252 (by decide) ?_
                              refine y_iadd hC (pc := 253) (v := ((rF s206 (rR σ 7) 9) + 1)) dX14_line_253 rfl ?_
                              obtain ⟨r58, h⟩ := h
                              refine y_putIN hC (pc := 254) zf13 (rOb_k g0) 9 (x := ((rF s206 (rR σ 7) 9) + 1)) dX14_line_254 zw2328 (Or.inl rfl) rfl rfl (kk := ?_)
                              have W59 := W57.sF (q := (rR σ 7)) (f := 9) (x := ((rF s206 (rR σ 7) 9) + 1)) r58
                              refine y_iinc hC (pc := 257) (v := (y206_8 + 1)) (lv' := [(8, iv (y206_8 + 1)), (0, .ref (κ 0)), (5, iv y206_5)]) 2 dX14_line_257 rfl rfl (by decide) rfl ?_
                              refine z_goto hC (pc := 260) 206 dX14_line_260 (by decide) ?_
                              refine z_lvs [1, 2, 0] rfl ?_
                              obtain ⟨r60, h⟩ := h
                              obtain ⟨hI, hm⟩ := h
                              exact ih206 (sF (sA (sA s206 1037 y206_8 (inar .boolean 1)) (1000 * ((rR σ 7) + 1) + 8) (rF s206 (rR σ 7) 9) (inar .byte (f_i2b (rA s206 1035 y206_8)))) (rR σ 7) 9 ((rF s206 (rR σ 7) 9) + 1)) y206_5 (y206_8 + 1) W59 hy206_5 r60 (rKeep.tr (rKeep.tr (rKeep.tr (rKeep.tr rKeep.rf kJ rfl rfl rfl rfl rfl) (rKeep.sA0 (f := 37) (by decide)) rfl rfl rfl rfl rfl) (rKeep.sAk (f := 8) g0 (by decide)) rfl rfl rfl rfl rfl) (rKeep.sFk (f := 9) g0) rfl rfl rfl rfl rfl) hI (by omega)
                        refine z_lvs [3, 6, 0] rfl ?_
                        exact j206 _ (sT s104 (rR σ 7) 4 (rA s104 1035 y104_5) (((4096 * (rF s104 (rR σ 7) 9)) + y104_5) - x1)) y104_5 x1 W52 hy104_5 hx1 (rKeep.tr (rKeep.tr rKeep.rf kJ rfl rfl rfl rfl rfl) (rKeep.sAk (f := 4) g0 (by decide)) rfl rfl rfl rfl rfl) h (Nat.le_refl _)
                      · have h := hF c
                        refine z_iload hC (pc := 153) 0 dX14_line_153 rfl ?_
                        refine z_bipush hC (pc := 155) (v := Int32.ofInt 6) dX14_line_155 (by decide) ?_
                        obtain ⟨hT, hF⟩ := h
                        refine y_icmp_eq hC (pc := 157) 168 (Ws104.a _ _) (r_lit rfl) dX14_line_157 (by decide) (fun c => ?_) (fun c => ?_)
                        · have h := hT c
                          refine z_aload_n hC (pc := 168) 1 dX14_line_168 rfl rfl ?_
                          refine y_get hC (pc := 169) zf14 rOb_0 35 (v := .ref (κ 1035)) dX14_line_169 zw2502 (rv_c rfl) (kk := ?_)
                          refine z_iload hC (pc := 172) 4 dX14_line_172 rfl ?_
                          obtain ⟨b61, h⟩ := h
                          refine y_iald hC (pc := 174) (rAr_m rfl) dX14_line_174 b61 (v := (rA s104 1035 y104_5)) rfl (kk := ?_)
                          have h := h (Ws104.a _ _)
                          refine z_istore hC (pc := 175) (lv' := [(7, iv (rA s104 1035 y104_5)), (6, iv (rA s104 1034 y104_5)), (0, .ref (κ 0)), (1, iv x1), (2, iv x2), (5, iv y104_5)]) dX14_line_175 (by decide) rfl ?_
                          refine z_aload_n hC (pc := 177) 2 dX14_line_177 rfl rfl ?_
                          refine y_get hC (pc := 178) zf14 rOb_0 7 (v := .ref (κ (rR σ 7))) dX14_line_178 zw2475 (rv_g rfl (kJ.R rfl) g0) (kk := ?_)
                          refine y_getN hC (pc := 181) zf13 (rOb_k g0) 4 (v := .ref (κ (1000 * ((rR σ 7) + 1) + 4))) dX14_line_181 zw2318 (rv_c rfl) (kk := ?_)
                          refine z_iload hC (pc := 184) 0 dX14_line_184 rfl ?_
                          refine z_sipush hC (pc := 186) (v := Int32.ofInt 4096) dX14_line_186 (by decide) ?_
                          refine z_aload_n hC (pc := 189) 2 dX14_line_189 rfl rfl ?_
                          refine y_get hC (pc := 190) zf14 rOb_0 7 (v := .ref (κ (rR σ 7))) dX14_line_190 zw2475 (rv_g rfl (kJ.R rfl) g0) (kk := ?_)
                          refine y_getN hC (pc := 193) zf13 (rOb_k g0) 9 (v := iv (rF s104 (rR σ 7) 9)) dX14_line_193 zw2328 (rv_i (Or.inl rfl) rfl) (kk := ?_)
                          have h := h (Ws104.f _ _)
                          refine y_imul hC (pc := 196) (v := (4096 * (rF s104 (rR σ 7) 9))) dX14_line_196 rfl ?_
                          refine z_iload hC (pc := 197) 5 dX14_line_197 rfl ?_
                          refine y_iadd hC (pc := 199) (v := ((4096 * (rF s104 (rR σ 7) 9)) + y104_5)) dX14_line_199 rfl ?_
                          refine z_iload_n hC (pc := 200) 3 dX14_line_200 rfl rfl ?_
                          refine y_isub hC (pc := 201) (v := (((4096 * (rF s104 (rR σ 7) 9)) + y104_5) - x1)) dX14_line_201 rfl ?_
                          obtain ⟨b62, h⟩ := h
                          obtain ⟨r63, h⟩ := h
                          refine y_iast hC (pc := 202) (rAr_k g0 rfl rfl) dX14_line_202 b62 (v := (((4096 * (rF s104 (rR σ 7) 9)) + y104_5) - x1)) (kk := ?_)
                          have W64 := Ws104.sA (p := (1000 * ((rR σ 7) + 1) + 4)) (i := (rA s104 1035 y104_5)) (x := (((4096 * (rF s104 (rR σ 7) 9)) + y104_5) - x1)) r63
                          refine z_iload_n hC (pc := 203) 3 dX14_line_203 rfl rfl ?_
                          refine z_istore hC (pc := 204) (lv' := [(8, iv x1), (7, iv (rA s104 1035 y104_5)), (6, iv (rA s104 1034 y104_5)), (0, .ref (κ 0)), (1, iv x1), (2, iv x2), (5, iv y104_5)]) dX14_line_204 (by decide) rfl ?_
                          have j206 : ∀ (d206 : Nat), ∀ (s206 : rS) (y206_5 : Int) (y206_8 : Int), rWF s206 → rng y206_5 → rng y206_8 → rKeep 0 0x200 0x2000000000 0x110 0 σ s206 → inv_X14_line_w_206 σ x1 x2 gg g nn s206 y206_5 y206_8 → (mu_X14_line_w_206 σ x1 x2 gg g nn s206 y206_5 y206_8) ≤ d206 → zS X G 9 (rW G κ s206) [(0, .ref (κ 0)), (5, iv y206_5), (8, iv y206_8)] 0 0 206 [] := by
                            intro d206
                            induction d206 with
                            | zero =>
                              intro s206 y206_5 y206_8 Ws206 hy206_5 hy206_8 kJ hI hmu
                              exact absurd hmu (by have := h_206m  s206 y206_5 y206_8 Ws206 hy206_5 hy206_8 (kJ.R rfl) (kJ.F rfl) (kJ.F rfl) (fun i => kJ.A (f := 34) (by decide) rfl) (fun i => kJ.A (f := 35) (by decide) rfl) (fun i => kJ.A (f := 36) (by decide) rfl) (kJ.FG g0 rfl) (kJ.FG g0 rfl) (kJ.FG g0 rfl) hI; omega)
                            | succ d206 ih206 =>
                              intro s206 y206_5 y206_8 Ws206 hy206_5 hy206_8 kJ hI hmu206
                              have h := h_206  s206 y206_5 y206_8 Ws206 hy206_5 hy206_8 (kJ.R rfl) (kJ.F rfl) (kJ.F rfl) (fun i => kJ.A (f := 34) (by decide) rfl) (fun i => kJ.A (f := 35) (by decide) rfl) (fun i => kJ.A (f := 36) (by decide) rfl) (kJ.FG g0 rfl) (kJ.FG g0 rfl) (kJ.FG g0 rfl) hI
                              refine z_iload hC (pc := 206) 2 dX14_line_206 rfl ?_
                              refine z_iload hC (pc := 208) 1 dX14_line_208 rfl ?_
                              obtain ⟨hT, hF⟩ := h
                              refine y_icmp_ge hC (pc := 210) 263 hy206_8 hy206_5 dX14_line_210 (by decide) (fun c => ?_) (fun c => ?_)
                              · have h := hT c
                                exact y_retv hR dX14_line_263 Ws206 (Nat.le_of_ble_eq_true rfl) (Nat.le_of_ble_eq_true rfl) ⟨(rKeep.tr rKeep.rf kJ rfl rfl rfl rfl rfl), h⟩
                              · have h := hF c
                                refine z_aload_n hC (pc := 213) 0 dX14_line_213 rfl rfl ?_
                                refine y_get hC (pc := 214) zf14 rOb_0 37 (v := .ref (κ 1037)) dX14_line_214 zw2504 (rv_c rfl) (kk := ?_)
                                refine z_iload hC (pc := 217) 2 dX14_line_217 rfl ?_
                                refine z_iconst hC (pc := 219) (v := Int32.ofInt 1) dX14_line_219 (by decide) ?_
                                obtain ⟨b65, h⟩ := h
                                refine y_zast hC (pc := 220) (rAr_m rfl) dX14_line_220 b65 (v := 1) (kk := ?_)
                                have W66 := Ws206.sA (p := 1037) (i := y206_8) (x := (inar .boolean 1)) (inar_rng _ _)
                                refine z_aload_n hC (pc := 221) 0 dX14_line_221 rfl rfl ?_
                                refine y_get hC (pc := 222) zf14 rOb_0 7 (v := .ref (κ (rR σ 7))) dX14_line_222 zw2475 (rv_g rfl (kJ.R rfl) g0) (kk := ?_)
                                refine y_getN hC (pc := 225) zf13 (rOb_k g0) 8 (v := .ref (κ (1000 * ((rR σ 7) + 1) + 8))) dX14_line_225 zw2326 (rv_c rfl) (kk := ?_)
                                refine z_aload_n hC (pc := 228) 0 dX14_line_228 rfl rfl ?_
                                refine y_get hC (pc := 229) zf14 rOb_0 7 (v := .ref (κ (rR σ 7))) dX14_line_229 zw2475 (rv_g rfl (kJ.R rfl) g0) (kk := ?_)
                                refine y_getN hC (pc := 232) zf13 (rOb_k g0) 9 (v := iv (rF s206 (rR σ 7) 9)) dX14_line_232 zw2328 (rv_i (Or.inl rfl) rfl) (kk := ?_)
                                have h := h (Ws206.f _ _)
                                refine z_aload_n hC (pc := 235) 0 dX14_line_235 rfl rfl ?_
                                refine y_get hC (pc := 236) zf14 rOb_0 35 (v := .ref (κ 1035)) dX14_line_236 zw2502 (rv_c rfl) (kk := ?_)
                                refine z_iload hC (pc := 239) 2 dX14_line_239 rfl ?_
                                obtain ⟨b67, h⟩ := h
                                refine y_iald hC (pc := 241) (rAr_m rfl) dX14_line_241 b67 (v := (rA s206 1035 y206_8)) ((A_sA_ne (by decide)).trans rfl) (kk := ?_)
                                have h := h (Ws206.a _ _)
                                refine y_i2b hC (pc := 242) dX14_line_242 ?_
                                obtain ⟨b68, h⟩ := h
                                refine y_bast hC (pc := 243) (rAr_k g0 rfl rfl) dX14_line_243 b68 (v := (f_i2b (rA s206 1035 y206_8))) (kk := ?_)
                                have W69 := W66.sA (p := (1000 * ((rR σ 7) + 1) + 8)) (i := (rF s206 (rR σ 7) 9)) (x := (inar .byte (f_i2b (rA s206 1035 y206_8)))) (inar_rng _ _)
                                refine z_aload_n hC (pc := 244) 0 dX14_line_244 rfl rfl ?_
                                refine y_get hC (pc := 245) zf14 rOb_0 7 (v := .ref (κ (rR σ 7))) dX14_line_245 zw2475 (rv_g rfl (kJ.R rfl) g0) (kk := ?_)
                                refine z_dup hC (pc := 248) dX14_line_248 rfl ?_
                                refine y_getN hC (pc := 249) zf13 (rOb_k g0) 9 (v := iv (rF s206 (rR σ 7) 9)) dX14_line_249 zw2328 (rv_i (Or.inl rfl) rfl) (kk := ?_)
                                refine z_iconst hC (pc := 252) (v := Int32.ofInt 1) dX14_line_252 (by decide) ?_
                                refine y_iadd hC (pc := 253) (v := ((rF s206 (rR σ 7) 9) + 1)) dX14_line_253 rfl ?_
                                obtain ⟨r70, h⟩ := h
                                refine y_putIN hC (pc := 254) zf13 (rOb_k g0) 9 (x := ((rF s206 (rR σ 7) 9) + 1)) dX14_line_254 zw2328 (Or.inl rfl) rfl rfl (kk := ?_)
                                have W71 := W69.sF (q := (rR σ 7)) (f := 9) (x := ((rF s206 (rR σ 7) 9) + 1)) r70
                                refine y_iinc hC (pc := 257) (v := (y206_8 + 1)) (lv' := [(8, iv (y206_8 + 1)), (0, .ref (κ 0)), (5, iv y206_5)]) 2 dX14_line_257 rfl rfl (by decide) rfl ?_
                                refine z_goto hC (pc := 260) 206 dX14_line_260 (by decide) ?_
                                refine z_lvs [1, 2, 0] rfl ?_
                                obtain ⟨r72, h⟩ := h
                                obtain ⟨hI, hm⟩ := h
                                exact ih206 (sF (sA (sA s206 1037 y206_8 (inar .boolean 1)) (1000 * ((rR σ 7) + 1) + 8) (rF s206 (rR σ 7) 9) (inar .byte (f_i2b (rA s206 1035 y206_8)))) (rR σ 7) 9 ((rF s206 (rR σ 7) 9) + 1)) y206_5 (y206_8 + 1) W71 hy206_5 r72 (rKeep.tr (rKeep.tr (rKeep.tr (rKeep.tr rKeep.rf kJ rfl rfl rfl rfl rfl) (rKeep.sA0 (f := 37) (by decide)) rfl rfl rfl rfl rfl) (rKeep.sAk (f := 8) g0 (by decide)) rfl rfl rfl rfl rfl) (rKeep.sFk (f := 9) g0) rfl rfl rfl rfl rfl) hI (by omega)
                          refine z_lvs [3, 6, 0] rfl ?_
                          exact j206 _ (sT s104 (rR σ 7) 4 (rA s104 1035 y104_5) (((4096 * (rF s104 (rR σ 7) 9)) + y104_5) - x1)) y104_5 x1 W64 hy104_5 hx1 (rKeep.tr (rKeep.tr rKeep.rf kJ rfl rfl rfl rfl rfl) (rKeep.sAk (f := 4) g0 (by decide)) rfl rfl rfl rfl rfl) h (Nat.le_refl _)
                        · have h := hF c
                          refine z_iload hC (pc := 160) 0 dX14_line_160 rfl ?_
                          refine z_bipush hC (pc := 162) (v := Int32.ofInt 7) dX14_line_162 (by decide) ?_
                          obtain ⟨hT, hF⟩ := h
                          refine y_icmp_eq hC (pc := 164) 168 (Ws104.a _ _) (r_lit rfl) dX14_line_164 (by decide) (fun c => ?_) (fun c => ?_)
                          · have h := hT c
                            refine z_aload_n hC (pc := 168) 1 dX14_line_168 rfl rfl ?_
                            refine y_get hC (pc := 169) zf14 rOb_0 35 (v := .ref (κ 1035)) dX14_line_169 zw2502 (rv_c rfl) (kk := ?_)
                            refine z_iload hC (pc := 172) 4 dX14_line_172 rfl ?_
                            obtain ⟨b73, h⟩ := h
                            refine y_iald hC (pc := 174) (rAr_m rfl) dX14_line_174 b73 (v := (rA s104 1035 y104_5)) rfl (kk := ?_)
                            have h := h (Ws104.a _ _)
                            refine z_istore hC (pc := 175) (lv' := [(7, iv (rA s104 1035 y104_5)), (6, iv (rA s104 1034 y104_5)), (0, .ref (κ 0)), (1, iv x1), (2, iv x2), (5, iv y104_5)]) dX14_line_175 (by decide) rfl ?_
                            refine z_aload_n hC (pc := 177) 2 dX14_line_177 rfl rfl ?_
                            refine y_get hC (pc := 178) zf14 rOb_0 7 (v := .ref (κ (rR σ 7))) dX14_line_178 zw2475 (rv_g rfl (kJ.R rfl) g0) (kk := ?_)
                            refine y_getN hC (pc := 181) zf13 (rOb_k g0) 4 (v := .ref (κ (1000 * ((rR σ 7) + 1) + 4))) dX14_line_181 zw2318 (rv_c rfl) (kk := ?_)
                            refine z_iload hC (pc := 184) 0 dX14_line_184 rfl ?_
                            refine z_sipush hC (pc := 186) (v := Int32.ofInt 4096) dX14_line_186 (by decide) ?_
                            refine z_aload_n hC (pc := 189) 2 dX14_line_189 rfl rfl ?_
                            refine y_get hC (pc := 190) zf14 rOb_0 7 (v := .ref (κ (rR σ 7))) dX14_line_190 zw2475 (rv_g rfl (kJ.R rfl) g0) (kk := ?_)
                            refine y_getN hC (pc := 193) zf13 (rOb_k g0) 9 (v := iv (rF s104 (rR σ 7) 9)) dX14_line_193 zw2328 (rv_i (Or.inl rfl) rfl) (kk := ?_)
                            have h := h (Ws104.f _ _)
                            refine y_imul hC (pc := 196) (v := (4096 * (rF s104 (rR σ 7) 9))) dX14_line_196 rfl ?_
                            refine z_iload hC (pc := 197) 5 dX14_line_197 rfl ?_
                            refine y_iadd hC (pc := 199) (v := ((4096 * (rF s104 (rR σ 7) 9)) + y104_5)) dX14_line_199 rfl ?_
                            refine z_iload_n hC (pc := 200) 3 dX14_line_200 rfl rfl ?_
                            refine y_isub hC (pc := 201) (v := (((4096 * (rF s104 (rR σ 7) 9)) + y104_5) - x1)) dX14_line_201 rfl ?_
                            obtain ⟨b74, h⟩ := h
                            obtain ⟨r75, h⟩ := h
                            refine y_iast hC (pc := 202) (rAr_k g0 rfl rfl) dX14_line_202 b74 (v := (((4096 * (rF s104 (rR σ 7) 9)) + y104_5) - x1)) (kk := ?_)
                            have W76 := Ws104.sA (p := (1000 * ((rR σ 7) + 1) + 4)) (i := (rA s104 1035 y104_5)) (x := (((4096 * (rF s104 (rR σ 7) 9)) + y104_5) - x1)) r75
                            refine z_iload_n hC (pc := 203) 3 dX14_line_203 rfl rfl ?_
                            refine z_istore hC (pc := 204) (lv' := [(8, iv x1), (7, iv (rA s104 1035 y104_5)), (6, iv (rA s104 1034 y104_5)), (0, .ref (κ 0)), (1, iv x1), (2, iv x2), (5, iv y104_5)]) dX14_line_204 (by decide) rfl ?_
                            have j206 : ∀ (d206 : Nat), ∀ (s206 : rS) (y206_5 : Int) (y206_8 : Int), rWF s206 → rng y206_5 → rng y206_8 → rKeep 0 0x200 0x2000000000 0x110 0 σ s206 → inv_X14_line_w_206 σ x1 x2 gg g nn s206 y206_5 y206_8 → (mu_X14_line_w_206 σ x1 x2 gg g nn s206 y206_5 y206_8) ≤ d206 → zS X G 9 (rW G κ s206) [(0, .ref (κ 0)), (5, iv y206_5), (8, iv y206_8)] 0 0 206 [] := by
                              intro d206
                              induction d206 with
                              | zero =>
                                intro s206 y206_5 y206_8 Ws206 hy206_5 hy206_8 kJ hI hmu
                                exact absurd hmu (by have := h_206m  s206 y206_5 y206_8 Ws206 hy206_5 hy206_8 (kJ.R rfl) (kJ.F rfl) (kJ.F rfl) (fun i => kJ.A (f := 34) (by decide) rfl) (fun i => kJ.A (f := 35) (by decide) rfl) (fun i => kJ.A (f := 36) (by decide) rfl) (kJ.FG g0 rfl) (kJ.FG g0 rfl) (kJ.FG g0 rfl) hI; omega)
                              | succ d206 ih206 =>
                                intro s206 y206_5 y206_8 Ws206 hy206_5 hy206_8 kJ hI hmu206
                                have h := h_206  s206 y206_5 y206_8 Ws206 hy206_5 hy206_8 (kJ.R rfl) (kJ.F rfl) (kJ.F rfl) (fun i => kJ.A (f := 34) (by decide) rfl) (fun i => kJ.A (f := 35) (by decide) rfl) (fun i => kJ.A (f := 36) (by decide) rfl) (kJ.FG g0 rfl) (kJ.FG g0 rfl) (kJ.FG g0 rfl) hI
                                refine z_iload hC (pc := 206) 2 dX14_line_206 rfl ?_
                                refine z_iload hC (pc := 208) 1 dX14_line_208 rfl ?_
                                obtain ⟨hT, hF⟩ := h
                                refine y_icmp_ge hC (pc := 210) 263 hy206_8 hy206_5 dX14_line_210 (by decide) (fun c => ?_) (fun c => ?_)
                                · have h := hT c
                                  exact y_retv hR dX14_line_263 Ws206 (Nat.le_of_ble_eq_true rfl) (Nat.le_of_ble_eq_true rfl) ⟨(rKeep.tr rKeep.rf kJ rfl rfl rfl rfl rfl), h⟩
                                · have h := hF c
                                  refine z_aload_n hC (pc := 213) 0 dX14_line_213 rfl rfl ?_
                                  refine y_get hC (pc := 214) zf14 rOb_0 37 (v := .ref (κ 1037)) dX14_line_214 zw2504 (rv_c rfl) (kk := ?_)
                                  refine z_iload hC (pc := 217) 2 dX14_line_217 rfl ?_
                                  refine z_iconst hC (pc := 219) (v := Int32.ofInt 1) dX14_line_219 (by decide) ?_
                                  obtain ⟨b77, h⟩ := h
                                  refine y_zast hC (pc := 220) (rAr_m rfl) dX14_line_220 b77 (v := 1) (kk := ?_)
                                  have W78 := Ws206.sA (p := 1037) (i := y206_8) (x := (inar .boolean 1)) (inar_rng _ _)
                                  refine z_aload_n hC (pc := 221) 0 dX14_line_221 rfl rfl ?_
                                  refine y_get hC (pc := 222) zf14 rOb_0 7 (v := .ref (κ (rR σ 7))) dX14_line_222 zw2475 (rv_g rfl (kJ.R rfl) g0) (kk := ?_)
                                  refine y_getN hC (pc := 225) zf13 (rOb_k g0) 8 (v := .ref (κ (1000 * ((rR σ 7) + 1) + 8))) dX14_line_225 zw2326 (rv_c rfl) (kk := ?_)
                                  refine z_aload_n hC (pc := 228) 0 dX14_line_228 rfl rfl ?_
                                  refine y_get hC (pc := 229) zf14 rOb_0 7 (v := .ref (κ (rR σ 7))) dX14_line_229 zw2475 (rv_g rfl (kJ.R rfl) g0) (kk := ?_)
                                  refine y_getN hC (pc := 232) zf13 (rOb_k g0) 9 (v := iv (rF s206 (rR σ 7) 9)) dX14_line_232 zw2328 (rv_i (Or.inl rfl) rfl) (kk := ?_)
                                  have h := h (Ws206.f _ _)
                                  refine z_aload_n hC (pc := 235) 0 dX14_line_235 rfl rfl ?_
                                  refine y_get hC (pc := 236) zf14 rOb_0 35 (v := .ref (κ 1035)) dX14_line_236 zw2502 (rv_c rfl) (kk := ?_)
                                  refine z_iload hC (pc := 239) 2 dX14_line_239 rfl ?_
                                  obtain ⟨b79, h⟩ := h
                                  refine y_iald hC (pc := 241) (rAr_m rfl) dX14_line_241 b79 (v := (rA s206 1035 y206_8)) ((A_sA_ne (by decide)).trans rfl) (kk := ?_)
                                  have h := h (Ws206.a _ _)
                                  refine y_i2b hC (pc := 242) dX14_line_242 ?_
                                  obtain ⟨b80, h⟩ := h
                                  refine y_bast hC (pc := 243) (rAr_k g0 rfl rfl) dX14_line_243 b80 (v := (f_i2b (rA s206 1035 y206_8))) (kk := ?_)
                                  have W81 := W78.sA (p := (1000 * ((rR σ 7) + 1) + 8)) (i := (rF s206 (rR σ 7) 9)) (x := (inar .byte (f_i2b (rA s206 1035 y206_8)))) (inar_rng _ _)
                                  refine z_aload_n hC (pc := 244) 0 dX14_line_244 rfl rfl ?_
                                  refine y_get hC (pc := 245) zf14 rOb_0 7 (v := .ref (κ (rR σ 7))) dX14_line_245 zw2475 (rv_g rfl (kJ.R rfl) g0) (kk := ?_)
                                  refine z_dup hC (pc := 248) dX14_line_248 rfl ?_
                                  refine y_getN hC (pc := 249) zf13 (rOb_k g0) 9 (v := iv (rF s206 (rR σ 7) 9)) dX14_line_249 zw2328 (rv_i (Or.inl rfl) rfl) (kk := ?_)
                                  refine z_iconst hC (pc := 252) (v := Int32.ofInt 1) dX14_line_252 (by decide) ?_
                                  refine y_iadd hC (pc := 253) (v := ((rF s206 (rR σ 7) 9) + 1)) dX14_line_253 rfl ?_
                                  obtain ⟨r82, h⟩ := h
                                  refine y_putIN hC (pc := 254) zf13 (rOb_k g0) 9 (x := ((rF s206 (rR σ 7) 9) + 1)) dX14_line_254 zw2328 (Or.inl rfl) rfl rfl (kk := ?_)
                                  have W83 := W81.sF (q := (rR σ 7)) (f := 9) (x := ((rF s206 (rR σ 7) 9) + 1)) r82
                                  refine y_iinc hC (pc := 257) (v := (y206_8 + 1)) (lv' := [(8, iv (y206_8 + 1)), (0, .ref (κ 0)), (5, iv y206_5)]) 2 dX14_line_257 rfl rfl (by decide) rfl ?_
                                  refine z_goto hC (pc := 260) 206 dX14_line_260 (by decide) ?_
                                  refine z_lvs [1, 2, 0] rfl ?_
                                  obtain ⟨r84, h⟩ := h
                                  obtain ⟨hI, hm⟩ := h
                                  exact ih206 (sF (sA (sA s206 1037 y206_8 (inar .boolean 1)) (1000 * ((rR σ 7) + 1) + 8) (rF s206 (rR σ 7) 9) (inar .byte (f_i2b (rA s206 1035 y206_8)))) (rR σ 7) 9 ((rF s206 (rR σ 7) 9) + 1)) y206_5 (y206_8 + 1) W83 hy206_5 r84 (rKeep.tr (rKeep.tr (rKeep.tr (rKeep.tr rKeep.rf kJ rfl rfl rfl rfl rfl) (rKeep.sA0 (f := 37) (by decide)) rfl rfl rfl rfl rfl) (rKeep.sAk (f := 8) g0 (by decide)) rfl rfl rfl rfl rfl) (rKeep.sFk (f := 9) g0) rfl rfl rfl rfl rfl) hI (by omega)
                            refine z_lvs [3, 6, 0] rfl ?_
                            exact j206 _ (sT s104 (rR σ 7) 4 (rA s104 1035 y104_5) (((4096 * (rF s104 (rR σ 7) 9)) + y104_5) - x1)) y104_5 x1 W76 hy104_5 hx1 (rKeep.tr (rKeep.tr rKeep.rf kJ rfl rfl rfl rfl rfl) (rKeep.sAk (f := 4) g0 (by decide)) rfl rfl rfl rfl rfl) h (Nat.le_refl _)
                          · have h := hF c
                            exact y_retv hR dX14_line_167 Ws104 (Nat.le_of_ble_eq_true rfl) (Nat.le_of_ble_eq_true rfl) ⟨(rKeep.tr rKeep.rf kJ rfl rfl rfl rfl rfl), h⟩
                    · have h := hF c
                      exact y_retv hR dX14_line_137 Ws104 (Nat.le_of_ble_eq_true rfl) (Nat.le_of_ble_eq_true rfl) ⟨(rKeep.tr rKeep.rf kJ rfl rfl rfl rfl rfl), h⟩
                · have h := hF c
                  refine y_iinc hC (pc := 119) (v := (y104_5 + 1)) (lv' := [(5, iv (y104_5 + 1)), (0, .ref (κ 0)), (1, iv x1), (2, iv x2)]) 3 dX14_line_119 rfl rfl (by decide) rfl ?_
                  refine z_goto hC (pc := 122) 104 dX14_line_122 (by decide) ?_
                  refine z_lvs [1, 2, 3, 0] rfl ?_
                  obtain ⟨r85, h⟩ := h
                  obtain ⟨hI, hm⟩ := h
                  exact ih104 s104 (y104_5 + 1) Ws104 r85 (rKeep.tr rKeep.rf kJ rfl rfl rfl rfl rfl) hI (by omega)
          refine z_lvs [1, 2, 3, 0] rfl ?_
          exact j104 _ s8 x1 Ws8 hx1 (rKeep.tr rKeep.rf kJ rfl rfl rfl rfl rfl) h (Nat.le_refl _)
        · have h := hF c
          refine z_iload hC (pc := 52) 4 dX14_line_52 rfl ?_
          obtain ⟨hT, hF⟩ := h
          refine y_if_ne hC (pc := 54) 101 hy8_4 dX14_line_54 (by decide) (fun c => ?_) (fun c => ?_)
          · have h := hT c
            refine z_iload_n hC (pc := 101) 1 dX14_line_101 rfl rfl ?_
            refine z_istore hC (pc := 102) (lv' := [(5, iv x1), (0, .ref (κ 0)), (1, iv x1), (2, iv x2), (3, iv y8_3), (4, iv y8_4)]) dX14_line_102 (by decide) rfl ?_
            have j104 : ∀ (d104 : Nat), ∀ (s104 : rS) (y104_5 : Int), rWF s104 → rng y104_5 → rKeep 0 0x200 0x2000000000 0x110 0 σ s104 → inv_X14_line_w_104 σ x1 x2 gg g nn s104 y104_5 → (mu_X14_line_w_104 σ x1 x2 gg g nn s104 y104_5) ≤ d104 → zS X G 9 (rW G κ s104) [(0, .ref (κ 0)), (1, iv x1), (2, iv x2), (5, iv y104_5)] 0 0 104 [] := by
              intro d104
              induction d104 with
              | zero =>
                intro s104 y104_5 Ws104 hy104_5 kJ hI hmu
                exact absurd hmu (by have := h_104m  s104 y104_5 Ws104 hy104_5 (kJ.R rfl) (kJ.F rfl) (kJ.F rfl) (fun i => kJ.A (f := 34) (by decide) rfl) (fun i => kJ.A (f := 35) (by decide) rfl) (fun i => kJ.A (f := 36) (by decide) rfl) (kJ.FG g0 rfl) (kJ.FG g0 rfl) (kJ.FG g0 rfl) hI; omega)
              | succ d104 ih104 =>
                intro s104 y104_5 Ws104 hy104_5 kJ hI hmu104
                have h := h_104  s104 y104_5 Ws104 hy104_5 (kJ.R rfl) (kJ.F rfl) (kJ.F rfl) (fun i => kJ.A (f := 34) (by decide) rfl) (fun i => kJ.A (f := 35) (by decide) rfl) (fun i => kJ.A (f := 36) (by decide) rfl) (kJ.FG g0 rfl) (kJ.FG g0 rfl) (kJ.FG g0 rfl) hI
                refine z_iload hC (pc := 104) 3 dX14_line_104 rfl ?_
                refine z_iload_n hC (pc := 106) 2 dX14_line_106 rfl rfl ?_
                obtain ⟨hT, hF⟩ := h
                refine y_icmp_ge hC (pc := 107) 125 hy104_5 hx2 dX14_line_107 (by decide) (fun c => ?_) (fun c => ?_)
                · have h := hT c
                  refine z_iload hC (pc := 125) 3 dX14_line_125 rfl ?_
                  refine z_iload_n hC (pc := 127) 1 dX14_line_127 rfl rfl ?_
                  obtain ⟨hT, hF⟩ := h
                  refine y_icmp_eq hC (pc := 128) 137 hy104_5 hx1 dX14_line_128 (by decide) (fun c => ?_) (fun c => ?_)
                  · have h := hT c
                    exact y_retv hR dX14_line_137 Ws104 (Nat.le_of_ble_eq_true rfl) (Nat.le_of_ble_eq_true rfl) ⟨(rKeep.tr rKeep.rf kJ rfl rfl rfl rfl rfl), h⟩
                  · have h := hF c
                    refine z_iload hC (pc := 131) 3 dX14_line_131 rfl ?_
                    refine z_iload_n hC (pc := 133) 2 dX14_line_133 rfl rfl ?_
                    obtain ⟨hT, hF⟩ := h
                    refine y_icmp_ne hC (pc := 134) 138 hy104_5 hx2 dX14_line_134 (by decide) (fun c => ?_) (fun c => ?_)
                    · have h := hT c
                      refine z_aload_n hC (pc := 138) 0 dX14_line_138 rfl rfl ?_
                      refine y_get hC (pc := 139) zf14 rOb_0 34 (v := .ref (κ 1034)) dX14_line_139 zw2501 (rv_c rfl) (kk := ?_)
                      refine z_iload hC (pc := 142) 3 dX14_line_142 rfl ?_
                      obtain ⟨b86, h⟩ := h
                      refine y_iald hC (pc := 144) (rAr_m rfl) dX14_line_144 b86 (v := (rA s104 1034 y104_5)) rfl (kk := ?_)
                      have h := h (Ws104.a _ _)
                      refine z_istore hC (pc := 145) (lv' := [(6, iv (rA s104 1034 y104_5)), (0, .ref (κ 0)), (1, iv x1), (2, iv x2), (5, iv y104_5)]) dX14_line_145 (by decide) rfl ?_
                      refine z_iload hC (pc := 147) 0 dX14_line_147 rfl ?_
                      refine z_iconst hC (pc := 149) (v := Int32.ofInt 4) dX14_line_149 (by decide) ?_
                      obtain ⟨hT, hF⟩ := h
                      refine y_icmp_eq hC (pc := 150) 168 (Ws104.a _ _) (r_lit rfl) dX14_line_150 (by decide) (fun c => ?_) (fun c => ?_)
                      · have h := hT c
                        refine z_aload_n hC (pc := 168) 1 dX14_line_168 rfl rfl ?_
                        refine y_get hC (pc := 169) zf14 rOb_0 35 (v := .ref (κ 1035)) dX14_line_169 zw2502 (rv_c rfl) (kk := ?_)
                        refine z_iload hC (pc := 172) 4 dX14_line_172 rfl ?_
                        obtain ⟨b87, h⟩ := h
                        refine y_iald hC (pc := 174) (rAr_m rfl) dX14_line_174 b87 (v := (rA s104 1035 y104_5)) rfl (kk := ?_)
                        have h := h (Ws104.a _ _)
                        refine z_istore hC (pc := 175) (lv' := [(7, iv (rA s104 1035 y104_5)), (6, iv (rA s104 1034 y104_5)), (0, .ref (κ 0)), (1, iv x1), (2, iv x2), (5, iv y104_5)]) dX14_line_175 (by decide) rfl ?_
                        refine z_aload_n hC (pc := 177) 2 dX14_line_177 rfl rfl ?_
                        refine y_get hC (pc := 178) zf14 rOb_0 7 (v := .ref (κ (rR σ 7))) dX14_line_178 zw2475 (rv_g rfl (kJ.R rfl) g0) (kk := ?_)
                        refine y_getN hC (pc := 181) zf13 (rOb_k g0) 4 (v := .ref (κ (1000 * ((rR σ 7) + 1) + 4))) dX14_line_181 zw2318 (rv_c rfl) (kk := ?_)
                        refine z_iload hC (pc := 184) 0 dX14_line_184 rfl ?_
                        refine z_sipush hC (pc := 186) (v := Int32.ofInt 4096) dX14_line_186 (by decide) ?_
                        refine z_aload_n hC (pc := 189) 2 dX14_line_189 rfl rfl ?_
                        refine y_get hC (pc := 190) zf14 rOb_0 7 (v := .ref (κ (rR σ 7))) dX14_line_190 zw2475 (rv_g rfl (kJ.R rfl) g0) (kk := ?_)
                        refine y_getN hC (pc := 193) zf13 (rOb_k g0) 9 (v := iv (rF s104 (rR σ 7) 9)) dX14_line_193 zw2328 (rv_i (Or.inl rfl) rfl) (kk := ?_)
                        have h := h (Ws104.f _ _)
                        refine y_imul hC (pc := 196) (v := (4096 * (rF s104 (rR σ 7) 9))) dX14_line_196 rfl ?_
                        refine z_iload hC (pc := 197) 5 dX14_line_197 rfl ?_
                        refine y_iadd hC (pc := 199) (v := ((4096 * (rF s104 (rR σ 7) 9)) + y104_5)) dX14_line_199 rfl ?_
                        refine z_iload_n hC (pc := 200) 3 dX14_line_200 rfl rfl ?_
                        refine y_isub hC (pc := 201) (v := (((4096 * (rF s104 (rR σ 7) 9)) + y104_5) - x1)) dX14_line_201 rfl ?_
                        obtain ⟨b88, h⟩ := h
                        obtain ⟨r89, h⟩ := h
                        refine y_iast hC (pc := 202) (rAr_k g0 rfl rfl) dX14_line_202 b88 (v := (((4096 * (rF s104 (rR σ 7) 9)) + y104_5) - x1)) (kk := ?_)
                        have W90 := Ws104.sA (p := (1000 * ((rR σ 7) + 1) + 4)) (i := (rA s104 1035 y104_5)) (x := (((4096 * (rF s104 (rR σ 7) 9)) + y104_5) - x1)) r89
                        refine z_iload_n hC (pc := 203) 3 dX14_line_203 rfl rfl ?_
                        refine z_istore hC (pc := 204) (lv' := [(8, iv x1), (7, iv (rA s104 1035 y104_5)), (6, iv (rA s104 1034 y104_5)), (0, .ref (κ 0)), (1, iv x1), (2, iv x2), (5, iv y104_5)]) dX14_line_204 (by decide) rfl ?_
                        have j206 : ∀ (d206 : Nat), ∀ (s206 : rS) (y206_5 : Int) (y206_8 : Int), rWF s206 → rng y206_5 → rng y206_8 → rKeep 0 0x200 0x2000000000 0x110 0 σ s206 → inv_X14_line_w_206 σ x1 x2 gg g nn s206 y206_5 y206_8 → (mu_X14_line_w_206 σ x1 x2 gg g nn s206 y206_5 y206_8) ≤ d206 → zS X G 9 (rW G κ s206) [(0, .ref (κ 0)), (5, iv y206_5), (8, iv y206_8)] 0 0 206 [] := by
                          intro d206
                          induction d206 with
                          | zero =>
                            intro s206 y206_5 y206_8 Ws206 hy206_5 hy206_8 kJ hI hmu
                            exact absurd hmu (by have := h_206m  s206 y206_5 y206_8 Ws206 hy206_5 hy206_8 (kJ.R rfl) (kJ.F rfl) (kJ.F rfl) (fun i => kJ.A (f := 34) (by decide) rfl) (fun i => kJ.A (f := 35) (by decide) rfl) (fun i => kJ.A (f := 36) (by decide) rfl) (kJ.FG g0 rfl) (kJ.FG g0 rfl) (kJ.FG g0 rfl) hI; omega)
                          | succ d206 ih206 =>
                            intro s206 y206_5 y206_8 Ws206 hy206_5 hy206_8 kJ hI hmu206
                            have h := h_206  s206 y206_5 y206_8 Ws206 hy206_5 hy206_8 (kJ.R rfl) (kJ.F rfl) (kJ.F rfl) (fun i => kJ.A (f := 34) (by decide) rfl) (fun i => kJ.A (f := 35) (by decide) rfl) (fun i => kJ.A (f := 36) (by decide) rfl) (kJ.FG g0 rfl) (kJ.FG g0 rfl) (kJ.FG g0 rfl) hI
                            refine z_iload hC (pc := 206) 2 dX14_line_206 rfl ?_
                            refine z_iload hC (pc := 208) 1 dX14_line_208 rfl ?_
                            obtain ⟨hT, hF⟩ := h
                            refine y_icmp_ge hC (pc := 210) 263 hy206_8 hy206_5 dX14_line_210 (by decide) (fun c => ?_) (fun c => ?_)
                            · have h := hT c
                              exact y_retv hR dX14_line_263 Ws206 (Nat.le_of_ble_eq_true rfl) (Nat.le_of_ble_eq_true rfl) ⟨(rKeep.tr rKeep.rf kJ rfl rfl rfl rfl rfl), h⟩
                            · have h := hF c
                              refine z_aload_n hC (pc := 213) 0 dX14_line_213 rfl rfl ?_
                              refine y_get hC (pc := 214) zf14 rOb_0 37 (v := .ref (κ 1037)) dX14_line_214 zw2504 (rv_c rfl) (kk := ?_)
                              refine z_iload hC (pc := 217) 2 dX14_line_217 rfl ?_
                              refine z_iconst hC (pc := 219) (v := Int32.ofInt 1) dX14_line_219 (by decide) ?_
                              obtain ⟨b91, h⟩ := h
                              refine y_zast hC (pc := 220) (rAr_m rfl) dX14_line_220 b91 (v := 1) (kk := ?_)
                              have W92 := Ws206.sA (p := 1037) (i := y206_8) (x := (inar .boolean 1)) (inar_rng _ _)
                              refine z_aload_n hC (pc := 221) 0 dX14_line_221 rfl rfl ?_
                              refine y_get hC (pc := 222) zf14 rOb_0 7 (v := .ref (κ (rR σ 7))) dX14_line_222 zw2475 (rv_g rfl (kJ.R rfl) g0) (kk := ?_)
                              refine y_getN hC (pc := 225) zf13 (rOb_k g0) 8 (v := .ref (κ (1000 * ((rR σ 7) + 1) + 8))) dX14_line_225 zw2326 (rv_c rfl) (kk := ?_)
                              refine z_aload_n hC (pc := 228) 0 dX14_line_228 rfl rfl ?_
                              refine y_get hC (pc := 229) zf14 rOb_0 7 (v := .ref (κ (rR σ 7))) dX14_line_229 zw2475 (rv_g rfl (kJ.R rfl) g0) (kk := ?_)
                              refine y_getN hC (pc := 232) zf13 (rOb_k g0) 9 (v := iv (rF s206 (rR σ 7) 9)) dX14_line_232 zw2328 (rv_i (Or.inl rfl) rfl) (kk := ?_)
                              have h := h (Ws206.f _ _)
                              refine z_aload_n hC (pc := 235) 0 dX14_line_235 rfl rfl ?_
                              refine y_get hC (pc := 236) zf14 rOb_0 35 (v := .ref (κ 1035)) dX14_line_236 zw2502 (rv_c rfl) (kk := ?_)
                              refine z_iload hC (pc := 239) 2 dX14_line_239 rfl ?_
                              obtain ⟨b93, h⟩ := h
                              refine y_iald hC (pc := 241) (rAr_m rfl) dX14_line_241 b93 (v := (rA s206 1035 y206_8)) ((A_sA_ne (by decide)).trans rfl) (kk := ?_)
                              have h := h (Ws206.a _ _)
                              refine y_i2b hC (pc := 242) dX14_line_242 ?_
                              obtain ⟨b94, h⟩ := h
                              refine y_bast hC (pc := 243) (rAr_k g0 rfl rfl) dX14_line_243 b94 (v := (f_i2b (rA s206 1035 y206_8))) (kk := ?_)
                              have W95 := W92.sA (p := (1000 * ((rR σ 7) + 1) + 8)) (i := (rF s206 (rR σ 7) 9)) (x := (inar .byte (f_i2b (rA s206 1035 y206_8)))) (inar_rng _ _)
                              refine z_aload_n hC (pc := 244) 0 dX14_line_244 rfl rfl ?_
                              refine y_get hC (pc := 245) zf14 rOb_0 7 (v := .ref (κ (rR σ 7))) dX14_line_245 zw2475 (rv_g rfl (kJ.R rfl) g0) (kk := ?_)
                              refine z_dup hC (pc := 248) dX14_line_248 rfl ?_
                              refine y_getN hC (pc := 249) zf13 (rOb_k g0) 9 (v := iv (rF s206 (rR σ 7) 9)) dX14_line_249 zw2328 (rv_i (Or.inl rfl) rfl) (kk := ?_)
                              refine z_iconst hC (pc := 252) (v := Int32.ofInt 1) dX14_line_252 (by decide) ?_
                              refine y_iadd hC (pc := 253) (v := ((rF s206 (rR σ 7) 9) + 1)) dX14_line_253 rfl ?_
                              obtain ⟨r96, h⟩ := h
                              refine y_putIN hC (pc := 254) zf13 (rOb_k g0) 9 (x := ((rF s206 (rR σ 7) 9) + 1)) dX14_line_254 zw2328 (Or.inl rfl) rfl rfl (kk := ?_)
                              have W97 := W95.sF (q := (rR σ 7)) (f := 9) (x := ((rF s206 (rR σ 7) 9) + 1)) r96
                              refine y_iinc hC (pc := 257) (v := (y206_8 + 1)) (lv' := [(8, iv (y206_8 + 1)), (0, .ref (κ 0)), (5, iv y206_5)]) 2 dX14_line_257 rfl rfl (by decide) rfl ?_
                              refine z_goto hC (pc := 260) 206 dX14_line_260 (by decide) ?_
                              refine z_lvs [1, 2, 0] rfl ?_
                              obtain ⟨r98, h⟩ := h
                              obtain ⟨hI, hm⟩ := h
                              exact ih206 (sF (sA (sA s206 1037 y206_8 (inar .boolean 1)) (1000 * ((rR σ 7) + 1) + 8) (rF s206 (rR σ 7) 9) (inar .byte (f_i2b (rA s206 1035 y206_8)))) (rR σ 7) 9 ((rF s206 (rR σ 7) 9) + 1)) y206_5 (y206_8 + 1) W97 hy206_5 r98 (rKeep.tr (rKeep.tr (rKeep.tr (rKeep.tr rKeep.rf kJ rfl rfl rfl rfl rfl) (rKeep.sA0 (f := 37) (by decide)) rfl rfl rfl rfl rfl) (rKeep.sAk (f := 8) g0 (by decide)) rfl rfl rfl rfl rfl) (rKeep.sFk (f := 9) g0) rfl rfl rfl rfl rfl) hI (by omega)
                        refine z_lvs [3, 6, 0] rfl ?_
                        exact j206 _ (sT s104 (rR σ 7) 4 (rA s104 1035 y104_5) (((4096 * (rF s104 (rR σ 7) 9)) + y104_5) - x1)) y104_5 x1 W90 hy104_5 hx1 (rKeep.tr (rKeep.tr rKeep.rf kJ rfl rfl rfl rfl rfl) (rKeep.sAk (f := 4) g0 (by decide)) rfl rfl rfl rfl rfl) h (Nat.le_refl _)
                      · have h := hF c
                        refine z_iload hC (pc := 153) 0 dX14_line_153 rfl ?_
                        refine z_bipush hC (pc := 155) (v := Int32.ofInt 6) dX14_line_155 (by decide) ?_
                        obtain ⟨hT, hF⟩ := h
                        refine y_icmp_eq hC (pc := 157) 168 (Ws104.a _ _) (r_lit rfl) dX14_line_157 (by decide) (fun c => ?_) (fun c => ?_)
                        · have h := hT c
                          refine z_aload_n hC (pc := 168) 1 dX14_line_168 rfl rfl ?_
                          refine y_get hC (pc := 169) zf14 rOb_0 35 (v := .ref (κ 1035)) dX14_line_169 zw2502 (rv_c rfl) (kk := ?_)
                          refine z_iload hC (pc := 172) 4 dX14_line_172 rfl ?_
                          obtain ⟨b99, h⟩ := h
                          refine y_iald hC (pc := 174) (rAr_m rfl) dX14_line_174 b99 (v := (rA s104 1035 y104_5)) rfl (kk := ?_)
                          have h := h (Ws104.a _ _)
                          refine z_istore hC (pc := 175) (lv' := [(7, iv (rA s104 1035 y104_5)), (6, iv (rA s104 1034 y104_5)), (0, .ref (κ 0)), (1, iv x1), (2, iv x2), (5, iv y104_5)]) dX14_line_175 (by decide) rfl ?_
                          refine z_aload_n hC (pc := 177) 2 dX14_line_177 rfl rfl ?_
                          refine y_get hC (pc := 178) zf14 rOb_0 7 (v := .ref (κ (rR σ 7))) dX14_line_178 zw2475 (rv_g rfl (kJ.R rfl) g0) (kk := ?_)
                          refine y_getN hC (pc := 181) zf13 (rOb_k g0) 4 (v := .ref (κ (1000 * ((rR σ 7) + 1) + 4))) dX14_line_181 zw2318 (rv_c rfl) (kk := ?_)
                          refine z_iload hC (pc := 184) 0 dX14_line_184 rfl ?_
                          refine z_sipush hC (pc := 186) (v := Int32.ofInt 4096) dX14_line_186 (by decide) ?_
                          refine z_aload_n hC (pc := 189) 2 dX14_line_189 rfl rfl ?_
                          refine y_get hC (pc := 190) zf14 rOb_0 7 (v := .ref (κ (rR σ 7))) dX14_line_190 zw2475 (rv_g rfl (kJ.R rfl) g0) (kk := ?_)
                          refine y_getN hC (pc := 193) zf13 (rOb_k g0) 9 (v := iv (rF s104 (rR σ 7) 9)) dX14_line_193 zw2328 (rv_i (Or.inl rfl) rfl) (kk := ?_)
                          have h := h (Ws104.f _ _)
                          refine y_imul hC (pc := 196) (v := (4096 * (rF s104 (rR σ 7) 9))) dX14_line_196 rfl ?_
                          refine z_iload hC (pc := 197) 5 dX14_line_197 rfl ?_
                          refine y_iadd hC (pc := 199) (v := ((4096 * (rF s104 (rR σ 7) 9)) + y104_5)) dX14_line_199 rfl ?_
                          refine z_iload_n hC (pc := 200) 3 dX14_line_200 rfl rfl ?_
                          refine y_isub hC (pc := 201) (v := (((4096 * (rF s104 (rR σ 7) 9)) + y104_5) - x1)) dX14_line_201 rfl ?_
                          obtain ⟨b100, h⟩ := h
                          obtain ⟨r101, h⟩ := h
                          refine y_iast hC (pc := 202) (rAr_k g0 rfl rfl) dX14_line_202 b100 (v := (((4096 * (rF s104 (rR σ 7) 9)) + y104_5) - x1)) (kk := ?_)
                          have W102 := Ws104.sA (p := (1000 * ((rR σ 7) + 1) + 4)) (i := (rA s104 1035 y104_5)) (x := (((4096 * (rF s104 (rR σ 7) 9)) + y104_5) - x1)) r101
                          refine z_iload_n hC (pc := 203) 3 dX14_line_203 rfl rfl ?_
                          refine z_istore hC (pc := 204) (lv' := [(8, iv x1), (7, iv (rA s104 1035 y104_5)), (6, iv (rA s104 1034 y104_5)), (0, .ref (κ 0)), (1, iv x1), (2, iv x2), (5, iv y104_5)]) dX14_line_204 (by decide) rfl ?_
                          have j206 : ∀ (d206 : Nat), ∀ (s206 : rS) (y206_5 : Int) (y206_8 : Int), rWF s206 → rng y206_5 → rng y206_8 → rKeep 0 0x200 0x2000000000 0x110 0 σ s206 → inv_X14_line_w_206 σ x1 x2 gg g nn s206 y206_5 y206_8 → (mu_X14_line_w_206 σ x1 x2 gg g nn s206 y206_5 y206_8) ≤ d206 → zS X G 9 (rW G κ s206) [(0, .ref (κ 0)), (5, iv y206_5), (8, iv y206_8)] 0 0 206 [] := by
                            intro d206
                            induction d206 with
                            | zero =>
                              intro s206 y206_5 y206_8 Ws206 hy206_5 hy206_8 kJ hI hmu
                              exact absurd hmu (by have := h_206m  s206 y206_5 y206_8 Ws206 hy206_5 hy206_8 (kJ.R rfl) (kJ.F rfl) (kJ.F rfl) (fun i => kJ.A (f := 34) (by decide) rfl) (fun i => kJ.A (f := 35) (by decide) rfl) (fun i => kJ.A (f := 36) (by decide) rfl) (kJ.FG g0 rfl) (kJ.FG g0 rfl) (kJ.FG g0 rfl) hI; omega)
                            | succ d206 ih206 =>
                              intro s206 y206_5 y206_8 Ws206 hy206_5 hy206_8 kJ hI hmu206
                              have h := h_206  s206 y206_5 y206_8 Ws206 hy206_5 hy206_8 (kJ.R rfl) (kJ.F rfl) (kJ.F rfl) (fun i => kJ.A (f := 34) (by decide) rfl) (fun i => kJ.A (f := 35) (by decide) rfl) (fun i => kJ.A (f := 36) (by decide) rfl) (kJ.FG g0 rfl) (kJ.FG g0 rfl) (kJ.FG g0 rfl) hI
                              refine z_iload hC (pc := 206) 2 dX14_line_206 rfl ?_
                              refine z_iload hC (pc := 208) 1 dX14_line_208 rfl ?_
                              obtain ⟨hT, hF⟩ := h
                              refine y_icmp_ge hC (pc := 210) 263 hy206_8 hy206_5 dX14_line_210 (by decide) (fun c => ?_) (fun c => ?_)
                              · have h := hT c
                                exact y_retv hR dX14_line_263 Ws206 (Nat.le_of_ble_eq_true rfl) (Nat.le_of_ble_eq_true rfl) ⟨(rKeep.tr rKeep.rf kJ rfl rfl rfl rfl rfl), h⟩
                              · have h := hF c
                                refine z_aload_n hC (pc := 213) 0 dX14_line_213 rfl rfl ?_
                                refine y_get hC (pc := 214) zf14 rOb_0 37 (v := .ref (κ 1037)) dX14_line_214 zw2504 (rv_c rfl) (kk := ?_)
                                refine z_iload hC (pc := 217) 2 dX14_line_217 rfl ?_
                                refine z_iconst hC (pc := 219) (v := Int32.ofInt 1) dX14_line_219 (by decide) ?_
                                obtain ⟨b103, h⟩ := h
                                refine y_zast hC (pc := 220) (rAr_m rfl) dX14_line_220 b103 (v := 1) (kk := ?_)
                                have W104 := Ws206.sA (p := 1037) (i := y206_8) (x := (inar .boolean 1)) (inar_rng _ _)
                                refine z_aload_n hC (pc := 221) 0 dX14_line_221 rfl rfl ?_
                                refine y_get hC (pc := 222) zf14 rOb_0 7 (v := .ref (κ (rR σ 7))) dX14_line_222 zw2475 (rv_g rfl (kJ.R rfl) g0) (kk := ?_)
                                refine y_getN hC (pc := 225) zf13 (rOb_k g0) 8 (v := .ref (κ (1000 * ((rR σ 7) + 1) + 8))) dX14_line_225 zw2326 (rv_c rfl) (kk := ?_)
                                refine z_aload_n hC (pc := 228) 0 dX14_line_228 rfl rfl ?_
                                refine y_get hC (pc := 229) zf14 rOb_0 7 (v := .ref (κ (rR σ 7))) dX14_line_229 zw2475 (rv_g rfl (kJ.R rfl) g0) (kk := ?_)
                                refine y_getN hC (pc := 232) zf13 (rOb_k g0) 9 (v := iv (rF s206 (rR σ 7) 9)) dX14_line_232 zw2328 (rv_i (Or.inl rfl) rfl) (kk := ?_)
                                have h := h (Ws206.f _ _)
                                refine z_aload_n hC (pc := 235) 0 dX14_line_235 rfl rfl ?_
                                refine y_get hC (pc := 236) zf14 rOb_0 35 (v := .ref (κ 1035)) dX14_line_236 zw2502 (rv_c rfl) (kk := ?_)
                                refine z_iload hC (pc := 239) 2 dX14_line_239 rfl ?_
                                obtain ⟨b105, h⟩ := h
                                refine y_iald hC (pc := 241) (rAr_m rfl) dX14_line_241 b105 (v := (rA s206 1035 y206_8)) ((A_sA_ne (by decide)).trans rfl) (kk := ?_)
                                have h := h (Ws206.a _ _)
                                refine y_i2b hC (pc := 242) dX14_line_242 ?_
                                obtain ⟨b106, h⟩ := h
                                refine y_bast hC (pc := 243) (rAr_k g0 rfl rfl) dX14_line_243 b106 (v := (f_i2b (rA s206 1035 y206_8))) (kk := ?_)
                                have W107 := W104.sA (p := (1000 * ((rR σ 7) + 1) + 8)) (i := (rF s206 (rR σ 7) 9)) (x := (inar .byte (f_i2b (rA s206 1035 y206_8)))) (inar_rng _ _)
                                refine z_aload_n hC (pc := 244) 0 dX14_line_244 rfl rfl ?_
                                refine y_get hC (pc := 245) zf14 rOb_0 7 (v := .ref (κ (rR σ 7))) dX14_line_245 zw2475 (rv_g rfl (kJ.R rfl) g0) (kk := ?_)
                                refine z_dup hC (pc := 248) dX14_line_248 rfl ?_
                                refine y_getN hC (pc := 249) zf13 (rOb_k g0) 9 (v := iv (rF s206 (rR σ 7) 9)) dX14_line_249 zw2328 (rv_i (Or.inl rfl) rfl) (kk := ?_)
                                refine z_iconst hC (pc := 252) (v := Int32.ofInt 1) dX14_line_252 (by decide) ?_
                                refine y_iadd hC (pc := 253) (v := ((rF s206 (rR σ 7) 9) + 1)) dX14_line_253 rfl ?_
                                obtain ⟨r108, h⟩ := h
                                refine y_putIN hC (pc := 254) zf13 (rOb_k g0) 9 (x := ((rF s206 (rR σ 7) 9) + 1)) dX14_line_254 zw2328 (Or.inl rfl) rfl rfl (kk := ?_)
                                have W109 := W107.sF (q := (rR σ 7)) (f := 9) (x := ((rF s206 (rR σ 7) 9) + 1)) r108
                                refine y_iinc hC (pc := 257) (v := (y206_8 + 1)) (lv' := [(8, iv (y206_8 + 1)), (0, .ref (κ 0)), (5, iv y206_5)]) 2 dX14_line_257 rfl rfl (by decide) rfl ?_
                                refine z_goto hC (pc := 260) 206 dX14_line_260 (by decide) ?_
                                refine z_lvs [1, 2, 0] rfl ?_
                                obtain ⟨r110, h⟩ := h
                                obtain ⟨hI, hm⟩ := h
                                exact ih206 (sF (sA (sA s206 1037 y206_8 (inar .boolean 1)) (1000 * ((rR σ 7) + 1) + 8) (rF s206 (rR σ 7) 9) (inar .byte (f_i2b (rA s206 1035 y206_8)))) (rR σ 7) 9 ((rF s206 (rR σ 7) 9) + 1)) y206_5 (y206_8 + 1) W109 hy206_5 r110 (rKeep.tr (rKeep.tr (rKeep.tr (rKeep.tr rKeep.rf kJ rfl rfl rfl rfl rfl) (rKeep.sA0 (f := 37) (by decide)) rfl rfl rfl rfl rfl) (rKeep.sAk (f := 8) g0 (by decide)) rfl rfl rfl rfl rfl) (rKeep.sFk (f := 9) g0) rfl rfl rfl rfl rfl) hI (by omega)
                          refine z_lvs [3, 6, 0] rfl ?_
                          exact j206 _ (sT s104 (rR σ 7) 4 (rA s104 1035 y104_5) (((4096 * (rF s104 (rR σ 7) 9)) + y104_5) - x1)) y104_5 x1 W102 hy104_5 hx1 (rKeep.tr (rKeep.tr rKeep.rf kJ rfl rfl rfl rfl rfl) (rKeep.sAk (f := 4) g0 (by decide)) rfl rfl rfl rfl rfl) h (Nat.le_refl _)
                        · have h := hF c
                          refine z_iload hC (pc := 160) 0 dX14_line_160 rfl ?_
                          refine z_bipush hC (pc := 162) (v := Int32.ofInt 7) dX14_line_162 (by decide) ?_
                          obtain ⟨hT, hF⟩ := h
                          refine y_icmp_eq hC (pc := 164) 168 (Ws104.a _ _) (r_lit rfl) dX14_line_164 (by decide) (fun c => ?_) (fun c => ?_)
                          · have h := hT c
                            refine z_aload_n hC (pc := 168) 1 dX14_line_168 rfl rfl ?_
                            refine y_get hC (pc := 169) zf14 rOb_0 35 (v := .ref (κ 1035)) dX14_line_169 zw2502 (rv_c rfl) (kk := ?_)
                            refine z_iload hC (pc := 172) 4 dX14_line_172 rfl ?_
                            obtain ⟨b111, h⟩ := h
                            refine y_iald hC (pc := 174) (rAr_m rfl) dX14_line_174 b111 (v := (rA s104 1035 y104_5)) rfl (kk := ?_)
                            have h := h (Ws104.a _ _)
                            refine z_istore hC (pc := 175) (lv' := [(7, iv (rA s104 1035 y104_5)), (6, iv (rA s104 1034 y104_5)), (0, .ref (κ 0)), (1, iv x1), (2, iv x2), (5, iv y104_5)]) dX14_line_175 (by decide) rfl ?_
                            refine z_aload_n hC (pc := 177) 2 dX14_line_177 rfl rfl ?_
                            refine y_get hC (pc := 178) zf14 rOb_0 7 (v := .ref (κ (rR σ 7))) dX14_line_178 zw2475 (rv_g rfl (kJ.R rfl) g0) (kk := ?_)
                            refine y_getN hC (pc := 181) zf13 (rOb_k g0) 4 (v := .ref (κ (1000 * ((rR σ 7) + 1) + 4))) dX14_line_181 zw2318 (rv_c rfl) (kk := ?_)
                            refine z_iload hC (pc := 184) 0 dX14_line_184 rfl ?_
                            refine z_sipush hC (pc := 186) (v := Int32.ofInt 4096) dX14_line_186 (by decide) ?_
                            refine z_aload_n hC (pc := 189) 2 dX14_line_189 rfl rfl ?_
                            refine y_get hC (pc := 190) zf14 rOb_0 7 (v := .ref (κ (rR σ 7))) dX14_line_190 zw2475 (rv_g rfl (kJ.R rfl) g0) (kk := ?_)
                            refine y_getN hC (pc := 193) zf13 (rOb_k g0) 9 (v := iv (rF s104 (rR σ 7) 9)) dX14_line_193 zw2328 (rv_i (Or.inl rfl) rfl) (kk := ?_)
                            have h := h (Ws104.f _ _)
                            refine y_imul hC (pc := 196) (v := (4096 * (rF s104 (rR σ 7) 9))) dX14_line_196 rfl ?_
                            refine z_iload hC (pc := 197) 5 dX14_line_197 rfl ?_
                            refine y_iadd hC (pc := 199) (v := ((4096 * (rF s104 (rR σ 7) 9)) + y104_5)) dX14_line_199 rfl ?_
                            refine z_iload_n hC (pc := 200) 3 dX14_line_200 rfl rfl ?_
                            refine y_isub hC (pc := 201) (v := (((4096 * (rF s104 (rR σ 7) 9)) + y104_5) - x1)) dX14_line_201 rfl ?_
                            obtain ⟨b112, h⟩ := h
                            obtain ⟨r113, h⟩ := h
                            refine y_iast hC (pc := 202) (rAr_k g0 rfl rfl) dX14_line_202 b112 (v := (((4096 * (rF s104 (rR σ 7) 9)) + y104_5) - x1)) (kk := ?_)
                            have W114 := Ws104.sA (p := (1000 * ((rR σ 7) + 1) + 4)) (i := (rA s104 1035 y104_5)) (x := (((4096 * (rF s104 (rR σ 7) 9)) + y104_5) - x1)) r113
                            refine z_iload_n hC (pc := 203) 3 dX14_line_203 rfl rfl ?_
                            refine z_istore hC (pc := 204) (lv' := [(8, iv x1), (7, iv (rA s104 1035 y104_5)), (6, iv (rA s104 1034 y104_5)), (0, .ref (κ 0)), (1, iv x1), (2, iv x2), (5, iv y104_5)]) dX14_line_204 (by decide) rfl ?_
                            have j206 : ∀ (d206 : Nat), ∀ (s206 : rS) (y206_5 : Int) (y206_8 : Int), rWF s206 → rng y206_5 → rng y206_8 → rKeep 0 0x200 0x2000000000 0x110 0 σ s206 → inv_X14_line_w_206 σ x1 x2 gg g nn s206 y206_5 y206_8 → (mu_X14_line_w_206 σ x1 x2 gg g nn s206 y206_5 y206_8) ≤ d206 → zS X G 9 (rW G κ s206) [(0, .ref (κ 0)), (5, iv y206_5), (8, iv y206_8)] 0 0 206 [] := by
                              intro d206
                              induction d206 with
                              | zero =>
                                intro s206 y206_5 y206_8 Ws206 hy206_5 hy206_8 kJ hI hmu
                                exact absurd hmu (by have := h_206m  s206 y206_5 y206_8 Ws206 hy206_5 hy206_8 (kJ.R rfl) (kJ.F rfl) (kJ.F rfl) (fun i => kJ.A (f := 34) (by decide) rfl) (fun i => kJ.A (f := 35) (by decide) rfl) (fun i => kJ.A (f := 36) (by decide) rfl) (kJ.FG g0 rfl) (kJ.FG g0 rfl) (kJ.FG g0 rfl) hI; omega)
                              | succ d206 ih206 =>
                                intro s206 y206_5 y206_8 Ws206 hy206_5 hy206_8 kJ hI hmu206
                                have h := h_206  s206 y206_5 y206_8 Ws206 hy206_5 hy206_8 (kJ.R rfl) (kJ.F rfl) (kJ.F rfl) (fun i => kJ.A (f := 34) (by decide) rfl) (fun i => kJ.A (f := 35) (by decide) rfl) (fun i => kJ.A (f := 36) (by decide) rfl) (kJ.FG g0 rfl) (kJ.FG g0 rfl) (kJ.FG g0 rfl) hI
                                refine z_iload hC (pc := 206) 2 dX14_line_206 rfl ?_
                                refine z_iload hC (pc := 208) 1 dX14_line_208 rfl ?_
                                obtain ⟨hT, hF⟩ := h
                                refine y_icmp_ge hC (pc := 210) 263 hy206_8 hy206_5 dX14_line_210 (by decide) (fun c => ?_) (fun c => ?_)
                                · have h := hT c
                                  exact y_retv hR dX14_line_263 Ws206 (Nat.le_of_ble_eq_true rfl) (Nat.le_of_ble_eq_true rfl) ⟨(rKeep.tr rKeep.rf kJ rfl rfl rfl rfl rfl), h⟩
                                · have h := hF c
                                  refine z_aload_n hC (pc := 213) 0 dX14_line_213 rfl rfl ?_
                                  refine y_get hC (pc := 214) zf14 rOb_0 37 (v := .ref (κ 1037)) dX14_line_214 zw2504 (rv_c rfl) (kk := ?_)
                                  refine z_iload hC (pc := 217) 2 dX14_line_217 rfl ?_
                                  refine z_iconst hC (pc := 219) (v := Int32.ofInt 1) dX14_line_219 (by decide) ?_
                                  obtain ⟨b115, h⟩ := h
                                  refine y_zast hC (pc := 220) (rAr_m rfl) dX14_line_220 b115 (v := 1) (kk := ?_)
                                  have W116 := Ws206.sA (p := 1037) (i := y206_8) (x := (inar .boolean 1)) (inar_rng _ _)
                                  refine z_aload_n hC (pc := 221) 0 dX14_line_221 rfl rfl ?_
                                  refine y_get hC (pc := 222) zf14 rOb_0 7 (v := .ref (κ (rR σ 7))) dX14_line_222 zw2475 (rv_g rfl (kJ.R rfl) g0) (kk := ?_)
                                  refine y_getN hC (pc := 225) zf13 (rOb_k g0) 8 (v := .ref (κ (1000 * ((rR σ 7) + 1) + 8))) dX14_line_225 zw2326 (rv_c rfl) (kk := ?_)
                                  refine z_aload_n hC (pc := 228) 0 dX14_line_228 rfl rfl ?_
                                  refine y_get hC (pc := 229) zf14 rOb_0 7 (v := .ref (κ (rR σ 7))) dX14_line_229 zw2475 (rv_g rfl (kJ.R rfl) g0) (kk := ?_)
                                  refine y_getN hC (pc := 232) zf13 (rOb_k g0) 9 (v := iv (rF s206 (rR σ 7) 9)) dX14_line_232 zw2328 (rv_i (Or.inl rfl) rfl) (kk := ?_)
                                  have h := h (Ws206.f _ _)
                                  refine z_aload_n hC (pc := 235) 0 dX14_line_235 rfl rfl ?_
                                  refine y_get hC (pc := 236) zf14 rOb_0 35 (v := .ref (κ 1035)) dX14_line_236 zw2502 (rv_c rfl) (kk := ?_)
                                  refine z_iload hC (pc := 239) 2 dX14_line_239 rfl ?_
                                  obtain ⟨b117, h⟩ := h
                                  refine y_iald hC (pc := 241) (rAr_m rfl) dX14_line_241 b117 (v := (rA s206 1035 y206_8)) ((A_sA_ne (by decide)).trans rfl) (kk := ?_)
                                  have h := h (Ws206.a _ _)
                                  refine y_i2b hC (pc := 242) dX14_line_242 ?_
                                  obtain ⟨b118, h⟩ := h
                                  refine y_bast hC (pc := 243) (rAr_k g0 rfl rfl) dX14_line_243 b118 (v := (f_i2b (rA s206 1035 y206_8))) (kk := ?_)
                                  have W119 := W116.sA (p := (1000 * ((rR σ 7) + 1) + 8)) (i := (rF s206 (rR σ 7) 9)) (x := (inar .byte (f_i2b (rA s206 1035 y206_8)))) (inar_rng _ _)
                                  refine z_aload_n hC (pc := 244) 0 dX14_line_244 rfl rfl ?_
                                  refine y_get hC (pc := 245) zf14 rOb_0 7 (v := .ref (κ (rR σ 7))) dX14_line_245 zw2475 (rv_g rfl (kJ.R rfl) g0) (kk := ?_)
                                  refine z_dup hC (pc := 248) dX14_line_248 rfl ?_
                                  refine y_getN hC (pc := 249) zf13 (rOb_k g0) 9 (v := iv (rF s206 (rR σ 7) 9)) dX14_line_249 zw2328 (rv_i (Or.inl rfl) rfl) (kk := ?_)
                                  refine z_iconst hC (pc := 252) (v := Int32.ofInt 1) dX14_line_252 (by decide) ?_
                                  refine y_iadd hC (pc := 253) (v := ((rF s206 (rR σ 7) 9) + 1)) dX14_line_253 rfl ?_
                                  obtain ⟨r120, h⟩ := h
                                  refine y_putIN hC (pc := 254) zf13 (rOb_k g0) 9 (x := ((rF s206 (rR σ 7) 9) + 1)) dX14_line_254 zw2328 (Or.inl rfl) rfl rfl (kk := ?_)
                                  have W121 := W119.sF (q := (rR σ 7)) (f := 9) (x := ((rF s206 (rR σ 7) 9) + 1)) r120
                                  refine y_iinc hC (pc := 257) (v := (y206_8 + 1)) (lv' := [(8, iv (y206_8 + 1)), (0, .ref (κ 0)), (5, iv y206_5)]) 2 dX14_line_257 rfl rfl (by decide) rfl ?_
                                  refine z_goto hC (pc := 260) 206 dX14_line_260 (by decide) ?_
                                  refine z_lvs [1, 2, 0] rfl ?_
                                  obtain ⟨r122, h⟩ := h
                                  obtain ⟨hI, hm⟩ := h
                                  exact ih206 (sF (sA (sA s206 1037 y206_8 (inar .boolean 1)) (1000 * ((rR σ 7) + 1) + 8) (rF s206 (rR σ 7) 9) (inar .byte (f_i2b (rA s206 1035 y206_8)))) (rR σ 7) 9 ((rF s206 (rR σ 7) 9) + 1)) y206_5 (y206_8 + 1) W121 hy206_5 r122 (rKeep.tr (rKeep.tr (rKeep.tr (rKeep.tr rKeep.rf kJ rfl rfl rfl rfl rfl) (rKeep.sA0 (f := 37) (by decide)) rfl rfl rfl rfl rfl) (rKeep.sAk (f := 8) g0 (by decide)) rfl rfl rfl rfl rfl) (rKeep.sFk (f := 9) g0) rfl rfl rfl rfl rfl) hI (by omega)
                            refine z_lvs [3, 6, 0] rfl ?_
                            exact j206 _ (sT s104 (rR σ 7) 4 (rA s104 1035 y104_5) (((4096 * (rF s104 (rR σ 7) 9)) + y104_5) - x1)) y104_5 x1 W114 hy104_5 hx1 (rKeep.tr (rKeep.tr rKeep.rf kJ rfl rfl rfl rfl rfl) (rKeep.sAk (f := 4) g0 (by decide)) rfl rfl rfl rfl rfl) h (Nat.le_refl _)
                          · have h := hF c
                            exact y_retv hR dX14_line_167 Ws104 (Nat.le_of_ble_eq_true rfl) (Nat.le_of_ble_eq_true rfl) ⟨(rKeep.tr rKeep.rf kJ rfl rfl rfl rfl rfl), h⟩
                    · have h := hF c
                      exact y_retv hR dX14_line_137 Ws104 (Nat.le_of_ble_eq_true rfl) (Nat.le_of_ble_eq_true rfl) ⟨(rKeep.tr rKeep.rf kJ rfl rfl rfl rfl rfl), h⟩
                · have h := hF c
                  refine z_aload_n hC (pc := 110) 0 dX14_line_110 rfl rfl ?_
                  refine z_iload hC (pc := 111) 3 dX14_line_111 rfl ?_
                  obtain ⟨p123, h⟩ := h
                  refine y_callVi hC (pc := 113) (As := [iv y104_5]) (kX14_isSpace l G κ s104 y104_5 Ws104 hy104_5 p123) dmX14_isSpace zf14 rOb_0 dX14_line_113 zw3299 rfl rfl (Nat.le_of_ble_eq_true rfl) (Nat.le_of_ble_eq_true rfl) (Nat.le_of_ble_eq_true rfl) (Nat.le_of_ble_eq_true rfl) (Nat.le_of_ble_eq_true rfl) (kk := fun v113 s113 hv113 Ws113 qs113 => ?_)
                  obtain ⟨es113, qs113⟩ := qs113
                  have es113 := es113.symm
                  subst es113
                  have h := h v113 hv113 qs113
                  obtain ⟨hT, hF⟩ := h
                  refine y_if_eq hC (pc := 116) 125 hv113 dX14_line_116 (by decide) (fun c => ?_) (fun c => ?_)
                  · have h := hT c
                    refine z_iload hC (pc := 125) 3 dX14_line_125 rfl ?_
                    refine z_iload_n hC (pc := 127) 1 dX14_line_127 rfl rfl ?_
                    obtain ⟨hT, hF⟩ := h
                    refine y_icmp_eq hC (pc := 128) 137 hy104_5 hx1 dX14_line_128 (by decide) (fun c => ?_) (fun c => ?_)
                    · have h := hT c
                      exact y_retv hR dX14_line_137 Ws104 (Nat.le_of_ble_eq_true rfl) (Nat.le_of_ble_eq_true rfl) ⟨(rKeep.tr rKeep.rf kJ rfl rfl rfl rfl rfl), h⟩
                    · have h := hF c
                      refine z_iload hC (pc := 131) 3 dX14_line_131 rfl ?_
                      refine z_iload_n hC (pc := 133) 2 dX14_line_133 rfl rfl ?_
                      obtain ⟨hT, hF⟩ := h
                      refine y_icmp_ne hC (pc := 134) 138 hy104_5 hx2 dX14_line_134 (by decide) (fun c => ?_) (fun c => ?_)
                      · have h := hT c
                        refine z_aload_n hC (pc := 138) 0 dX14_line_138 rfl rfl ?_
                        refine y_get hC (pc := 139) zf14 rOb_0 34 (v := .ref (κ 1034)) dX14_line_139 zw2501 (rv_c rfl) (kk := ?_)
                        refine z_iload hC (pc := 142) 3 dX14_line_142 rfl ?_
                        obtain ⟨b124, h⟩ := h
                        refine y_iald hC (pc := 144) (rAr_m rfl) dX14_line_144 b124 (v := (rA s104 1034 y104_5)) rfl (kk := ?_)
                        have h := h (Ws104.a _ _)
                        refine z_istore hC (pc := 145) (lv' := [(6, iv (rA s104 1034 y104_5)), (0, .ref (κ 0)), (1, iv x1), (2, iv x2), (5, iv y104_5)]) dX14_line_145 (by decide) rfl ?_
                        refine z_iload hC (pc := 147) 0 dX14_line_147 rfl ?_
                        refine z_iconst hC (pc := 149) (v := Int32.ofInt 4) dX14_line_149 (by decide) ?_
                        obtain ⟨hT, hF⟩ := h
                        refine y_icmp_eq hC (pc := 150) 168 (Ws104.a _ _) (r_lit rfl) dX14_line_150 (by decide) (fun c => ?_) (fun c => ?_)
                        · have h := hT c
                          refine z_aload_n hC (pc := 168) 1 dX14_line_168 rfl rfl ?_
                          refine y_get hC (pc := 169) zf14 rOb_0 35 (v := .ref (κ 1035)) dX14_line_169 zw2502 (rv_c rfl) (kk := ?_)
                          refine z_iload hC (pc := 172) 4 dX14_line_172 rfl ?_
                          obtain ⟨b125, h⟩ := h
                          refine y_iald hC (pc := 174) (rAr_m rfl) dX14_line_174 b125 (v := (rA s104 1035 y104_5)) rfl (kk := ?_)
                          have h := h (Ws104.a _ _)
                          refine z_istore hC (pc := 175) (lv' := [(7, iv (rA s104 1035 y104_5)), (6, iv (rA s104 1034 y104_5)), (0, .ref (κ 0)), (1, iv x1), (2, iv x2), (5, iv y104_5)]) dX14_line_175 (by decide) rfl ?_
                          refine z_aload_n hC (pc := 177) 2 dX14_line_177 rfl rfl ?_
                          refine y_get hC (pc := 178) zf14 rOb_0 7 (v := .ref (κ (rR σ 7))) dX14_line_178 zw2475 (rv_g rfl (kJ.R rfl) g0) (kk := ?_)
                          refine y_getN hC (pc := 181) zf13 (rOb_k g0) 4 (v := .ref (κ (1000 * ((rR σ 7) + 1) + 4))) dX14_line_181 zw2318 (rv_c rfl) (kk := ?_)
                          refine z_iload hC (pc := 184) 0 dX14_line_184 rfl ?_
                          refine z_sipush hC (pc := 186) (v := Int32.ofInt 4096) dX14_line_186 (by decide) ?_
                          refine z_aload_n hC (pc := 189) 2 dX14_line_189 rfl rfl ?_
                          refine y_get hC (pc := 190) zf14 rOb_0 7 (v := .ref (κ (rR σ 7))) dX14_line_190 zw2475 (rv_g rfl (kJ.R rfl) g0) (kk := ?_)
                          refine y_getN hC (pc := 193) zf13 (rOb_k g0) 9 (v := iv (rF s104 (rR σ 7) 9)) dX14_line_193 zw2328 (rv_i (Or.inl rfl) rfl) (kk := ?_)
                          have h := h (Ws104.f _ _)
                          refine y_imul hC (pc := 196) (v := (4096 * (rF s104 (rR σ 7) 9))) dX14_line_196 rfl ?_
                          refine z_iload hC (pc := 197) 5 dX14_line_197 rfl ?_
                          refine y_iadd hC (pc := 199) (v := ((4096 * (rF s104 (rR σ 7) 9)) + y104_5)) dX14_line_199 rfl ?_
                          refine z_iload_n hC (pc := 200) 3 dX14_line_200 rfl rfl ?_
                          refine y_isub hC (pc := 201) (v := (((4096 * (rF s104 (rR σ 7) 9)) + y104_5) - x1)) dX14_line_201 rfl ?_
                          obtain ⟨b126, h⟩ := h
                          obtain ⟨r127, h⟩ := h
                          refine y_iast hC (pc := 202) (rAr_k g0 rfl rfl) dX14_line_202 b126 (v := (((4096 * (rF s104 (rR σ 7) 9)) + y104_5) - x1)) (kk := ?_)
                          have W128 := Ws104.sA (p := (1000 * ((rR σ 7) + 1) + 4)) (i := (rA s104 1035 y104_5)) (x := (((4096 * (rF s104 (rR σ 7) 9)) + y104_5) - x1)) r127
                          refine z_iload_n hC (pc := 203) 3 dX14_line_203 rfl rfl ?_
                          refine z_istore hC (pc := 204) (lv' := [(8, iv x1), (7, iv (rA s104 1035 y104_5)), (6, iv (rA s104 1034 y104_5)), (0, .ref (κ 0)), (1, iv x1), (2, iv x2), (5, iv y104_5)]) dX14_line_204 (by decide) rfl ?_
                          have j206 : ∀ (d206 : Nat), ∀ (s206 : rS) (y206_5 : Int) (y206_8 : Int), rWF s206 → rng y206_5 → rng y206_8 → rKeep 0 0x200 0x2000000000 0x110 0 σ s206 → inv_X14_line_w_206 σ x1 x2 gg g nn s206 y206_5 y206_8 → (mu_X14_line_w_206 σ x1 x2 gg g nn s206 y206_5 y206_8) ≤ d206 → zS X G 9 (rW G κ s206) [(0, .ref (κ 0)), (5, iv y206_5), (8, iv y206_8)] 0 0 206 [] := by
                            intro d206
                            induction d206 with
                            | zero =>
                              intro s206 y206_5 y206_8 Ws206 hy206_5 hy206_8 kJ hI hmu
                              exact absurd hmu (by have := h_206m  s206 y206_5 y206_8 Ws206 hy206_5 hy206_8 (kJ.R rfl) (kJ.F rfl) (kJ.F rfl) (fun i => kJ.A (f := 34) (by decide) rfl) (fun i => kJ.A (f := 35) (by decide) rfl) (fun i => kJ.A (f := 36) (by decide) rfl) (kJ.FG g0 rfl) (kJ.FG g0 rfl) (kJ.FG g0 rfl) hI; omega)
                            | succ d206 ih206 =>
                              intro s206 y206_5 y206_8 Ws206 hy206_5 hy206_8 kJ hI hmu206
                              have h := h_206  s206 y206_5 y206_8 Ws206 hy206_5 hy206_8 (kJ.R rfl) (kJ.F rfl) (kJ.F rfl) (fun i => kJ.A (f := 34) (by decide) rfl) (fun i => kJ.A (f := 35) (by decide) rfl) (fun i => kJ.A (f := 36) (by decide) rfl) (kJ.FG g0 rfl) (kJ.FG g0 rfl) (kJ.FG g0 rfl) hI
                              refine z_iload hC (pc := 206) 2 dX14_line_206 rfl ?_
                              refine z_iload hC (pc := 208) 1 dX14_line_208 rfl ?_
                              obtain ⟨hT, hF⟩ := h
                              refine y_icmp_ge hC (pc := 210) 263 hy206_8 hy206_5 dX14_line_210 (by decide) (fun c => ?_) (fun c => ?_)
                              · have h := hT c
                                exact y_retv hR dX14_line_263 Ws206 (Nat.le_of_ble_eq_true rfl) (Nat.le_of_ble_eq_true rfl) ⟨(rKeep.tr rKeep.rf kJ rfl rfl rfl rfl rfl), h⟩
                              · have h := hF c
                                refine z_aload_n hC (pc := 213) 0 dX14_line_213 rfl rfl ?_
                                refine y_get hC (pc := 214) zf14 rOb_0 37 (v := .ref (κ 1037)) dX14_line_214 zw2504 (rv_c rfl) (kk := ?_)
                                refine z_iload hC (pc := 217) 2 dX14_line_217 rfl ?_
                                refine z_iconst hC (pc := 219) (v := Int32.ofInt 1) dX14_line_219 (by decide) ?_
                                obtain ⟨b129, h⟩ := h
                                refine y_zast hC (pc := 220) (rAr_m rfl) dX14_line_220 b129 (v := 1) (kk := ?_)
                                have W130 := Ws206.sA (p := 1037) (i := y206_8) (x := (inar .boolean 1)) (inar_rng _ _)
                                refine z_aload_n hC (pc := 221) 0 dX14_line_221 rfl rfl ?_
                                refine y_get hC (pc := 222) zf14 rOb_0 7 (v := .ref (κ (rR σ 7))) dX14_line_222 zw2475 (rv_g rfl (kJ.R rfl) g0) (kk := ?_)
                                refine y_getN hC (pc := 225) zf13 (rOb_k g0) 8 (v := .ref (κ (1000 * ((rR σ 7) + 1) + 8))) dX14_line_225 zw2326 (rv_c rfl) (kk := ?_)
                                refine z_aload_n hC (pc := 228) 0 dX14_line_228 rfl rfl ?_
                                refine y_get hC (pc := 229) zf14 rOb_0 7 (v := .ref (κ (rR σ 7))) dX14_line_229 zw2475 (rv_g rfl (kJ.R rfl) g0) (kk := ?_)
                                refine y_getN hC (pc := 232) zf13 (rOb_k g0) 9 (v := iv (rF s206 (rR σ 7) 9)) dX14_line_232 zw2328 (rv_i (Or.inl rfl) rfl) (kk := ?_)
                                have h := h (Ws206.f _ _)
                                refine z_aload_n hC (pc := 235) 0 dX14_line_235 rfl rfl ?_
                                refine y_get hC (pc := 236) zf14 rOb_0 35 (v := .ref (κ 1035)) dX14_line_236 zw2502 (rv_c rfl) (kk := ?_)
                                refine z_iload hC (pc := 239) 2 dX14_line_239 rfl ?_
                                obtain ⟨b131, h⟩ := h
                                refine y_iald hC (pc := 241) (rAr_m rfl) dX14_line_241 b131 (v := (rA s206 1035 y206_8)) ((A_sA_ne (by decide)).trans rfl) (kk := ?_)
                                have h := h (Ws206.a _ _)
                                refine y_i2b hC (pc := 242) dX14_line_242 ?_
                                obtain ⟨b132, h⟩ := h
                                refine y_bast hC (pc := 243) (rAr_k g0 rfl rfl) dX14_line_243 b132 (v := (f_i2b (rA s206 1035 y206_8))) (kk := ?_)
                                have W133 := W130.sA (p := (1000 * ((rR σ 7) + 1) + 8)) (i := (rF s206 (rR σ 7) 9)) (x := (inar .byte (f_i2b (rA s206 1035 y206_8)))) (inar_rng _ _)
                                refine z_aload_n hC (pc := 244) 0 dX14_line_244 rfl rfl ?_
                                refine y_get hC (pc := 245) zf14 rOb_0 7 (v := .ref (κ (rR σ 7))) dX14_line_245 zw2475 (rv_g rfl (kJ.R rfl) g0) (kk := ?_)
                                refine z_dup hC (pc := 248) dX14_line_248 rfl ?_
                                refine y_getN hC (pc := 249) zf13 (rOb_k g0) 9 (v := iv (rF s206 (rR σ 7) 9)) dX14_line_249 zw2328 (rv_i (Or.inl rfl) rfl) (kk := ?_)
                                refine z_iconst hC (pc := 252) (v := Int32.ofInt 1) dX14_line_252 (by decide) ?_
                                refine y_iadd hC (pc := 253) (v := ((rF s206 (rR σ 7) 9) + 1)) dX14_line_253 rfl ?_
                                obtain ⟨r134, h⟩ := h
                                refine y_putIN hC (pc := 254) zf13 (rOb_k g0) 9 (x := ((rF s206 (rR σ 7) 9) + 1)) dX14_line_254 zw2328 (Or.inl rfl) rfl rfl (kk := ?_)
                                have W135 := W133.sF (q := (rR σ 7)) (f := 9) (x := ((rF s206 (rR σ 7) 9) + 1)) r134
                                refine y_iinc hC (pc := 257) (v := (y206_8 + 1)) (lv' := [(8, iv (y206_8 + 1)), (0, .ref (κ 0)), (5, iv y206_5)]) 2 dX14_line_257 rfl rfl (by decide) rfl ?_
                                refine z_goto hC (pc := 260) 206 dX14_line_260 (by decide) ?_
                                refine z_lvs [1, 2, 0] rfl ?_
                                obtain ⟨r136, h⟩ := h
                                obtain ⟨hI, hm⟩ := h
                                exact ih206 (sF (sA (sA s206 1037 y206_8 (inar .boolean 1)) (1000 * ((rR σ 7) + 1) + 8) (rF s206 (rR σ 7) 9) (inar .byte (f_i2b (rA s206 1035 y206_8)))) (rR σ 7) 9 ((rF s206 (rR σ 7) 9) + 1)) y206_5 (y206_8 + 1) W135 hy206_5 r136 (rKeep.tr (rKeep.tr (rKeep.tr (rKeep.tr rKeep.rf kJ rfl rfl rfl rfl rfl) (rKeep.sA0 (f := 37) (by decide)) rfl rfl rfl rfl rfl) (rKeep.sAk (f := 8) g0 (by decide)) rfl rfl rfl rfl rfl) (rKeep.sFk (f := 9) g0) rfl rfl rfl rfl rfl) hI (by omega)
                          refine z_lvs [3, 6, 0] rfl ?_
                          exact j206 _ (sT s104 (rR σ 7) 4 (rA s104 1035 y104_5) (((4096 * (rF s104 (rR σ 7) 9)) + y104_5) - x1)) y104_5 x1 W128 hy104_5 hx1 (rKeep.tr (rKeep.tr rKeep.rf kJ rfl rfl rfl rfl rfl) (rKeep.sAk (f := 4) g0 (by decide)) rfl rfl rfl rfl rfl) h (Nat.le_refl _)
                        · have h := hF c
                          refine z_iload hC (pc := 153) 0 dX14_line_153 rfl ?_
                          refine z_bipush hC (pc := 155) (v := Int32.ofInt 6) dX14_line_155 (by decide) ?_
                          obtain ⟨hT, hF⟩ := h
                          refine y_icmp_eq hC (pc := 157) 168 (Ws104.a _ _) (r_lit rfl) dX14_line_157 (by decide) (fun c => ?_) (fun c => ?_)
                          · have h := hT c
                            refine z_aload_n hC (pc := 168) 1 dX14_line_168 rfl rfl ?_
                            refine y_get hC (pc := 169) zf14 rOb_0 35 (v := .ref (κ 1035)) dX14_line_169 zw2502 (rv_c rfl) (kk := ?_)
                            refine z_iload hC (pc := 172) 4 dX14_line_172 rfl ?_
                            obtain ⟨b137, h⟩ := h
                            refine y_iald hC (pc := 174) (rAr_m rfl) dX14_line_174 b137 (v := (rA s104 1035 y104_5)) rfl (kk := ?_)
                            have h := h (Ws104.a _ _)
                            refine z_istore hC (pc := 175) (lv' := [(7, iv (rA s104 1035 y104_5)), (6, iv (rA s104 1034 y104_5)), (0, .ref (κ 0)), (1, iv x1), (2, iv x2), (5, iv y104_5)]) dX14_line_175 (by decide) rfl ?_
                            refine z_aload_n hC (pc := 177) 2 dX14_line_177 rfl rfl ?_
                            refine y_get hC (pc := 178) zf14 rOb_0 7 (v := .ref (κ (rR σ 7))) dX14_line_178 zw2475 (rv_g rfl (kJ.R rfl) g0) (kk := ?_)
                            refine y_getN hC (pc := 181) zf13 (rOb_k g0) 4 (v := .ref (κ (1000 * ((rR σ 7) + 1) + 4))) dX14_line_181 zw2318 (rv_c rfl) (kk := ?_)
                            refine z_iload hC (pc := 184) 0 dX14_line_184 rfl ?_
                            refine z_sipush hC (pc := 186) (v := Int32.ofInt 4096) dX14_line_186 (by decide) ?_
                            refine z_aload_n hC (pc := 189) 2 dX14_line_189 rfl rfl ?_
                            refine y_get hC (pc := 190) zf14 rOb_0 7 (v := .ref (κ (rR σ 7))) dX14_line_190 zw2475 (rv_g rfl (kJ.R rfl) g0) (kk := ?_)
                            refine y_getN hC (pc := 193) zf13 (rOb_k g0) 9 (v := iv (rF s104 (rR σ 7) 9)) dX14_line_193 zw2328 (rv_i (Or.inl rfl) rfl) (kk := ?_)
                            have h := h (Ws104.f _ _)
                            refine y_imul hC (pc := 196) (v := (4096 * (rF s104 (rR σ 7) 9))) dX14_line_196 rfl ?_
                            refine z_iload hC (pc := 197) 5 dX14_line_197 rfl ?_
                            refine y_iadd hC (pc := 199) (v := ((4096 * (rF s104 (rR σ 7) 9)) + y104_5)) dX14_line_199 rfl ?_
                            refine z_iload_n hC (pc := 200) 3 dX14_line_200 rfl rfl ?_
                            refine y_isub hC (pc := 201) (v := (((4096 * (rF s104 (rR σ 7) 9)) + y104_5) - x1)) dX14_line_201 rfl ?_
                            obtain ⟨b138, h⟩ := h
                            obtain ⟨r139, h⟩ := h
                            refine y_iast hC (pc := 202) (rAr_k g0 rfl rfl) dX14_line_202 b138 (v := (((4096 * (rF s104 (rR σ 7) 9)) + y104_5) - x1)) (kk := ?_)
                            have W140 := Ws104.sA (p := (1000 * ((rR σ 7) + 1) + 4)) (i := (rA s104 1035 y104_5)) (x := (((4096 * (rF s104 (rR σ 7) 9)) + y104_5) - x1)) r139
                            refine z_iload_n hC (pc := 203) 3 dX14_line_203 rfl rfl ?_
                            refine z_istore hC (pc := 204) (lv' := [(8, iv x1), (7, iv (rA s104 1035 y104_5)), (6, iv (rA s104 1034 y104_5)), (0, .ref (κ 0)), (1, iv x1), (2, iv x2), (5, iv y104_5)]) dX14_line_204 (by decide) rfl ?_
                            have j206 : ∀ (d206 : Nat), ∀ (s206 : rS) (y206_5 : Int) (y206_8 : Int), rWF s206 → rng y206_5 → rng y206_8 → rKeep 0 0x200 0x2000000000 0x110 0 σ s206 → inv_X14_line_w_206 σ x1 x2 gg g nn s206 y206_5 y206_8 → (mu_X14_line_w_206 σ x1 x2 gg g nn s206 y206_5 y206_8) ≤ d206 → zS X G 9 (rW G κ s206) [(0, .ref (κ 0)), (5, iv y206_5), (8, iv y206_8)] 0 0 206 [] := by
                              intro d206
                              induction d206 with
                              | zero =>
                                intro s206 y206_5 y206_8 Ws206 hy206_5 hy206_8 kJ hI hmu
                                exact absurd hmu (by have := h_206m  s206 y206_5 y206_8 Ws206 hy206_5 hy206_8 (kJ.R rfl) (kJ.F rfl) (kJ.F rfl) (fun i => kJ.A (f := 34) (by decide) rfl) (fun i => kJ.A (f := 35) (by decide) rfl) (fun i => kJ.A (f := 36) (by decide) rfl) (kJ.FG g0 rfl) (kJ.FG g0 rfl) (kJ.FG g0 rfl) hI; omega)
                              | succ d206 ih206 =>
                                intro s206 y206_5 y206_8 Ws206 hy206_5 hy206_8 kJ hI hmu206
                                have h := h_206  s206 y206_5 y206_8 Ws206 hy206_5 hy206_8 (kJ.R rfl) (kJ.F rfl) (kJ.F rfl) (fun i => kJ.A (f := 34) (by decide) rfl) (fun i => kJ.A (f := 35) (by decide) rfl) (fun i => kJ.A (f := 36) (by decide) rfl) (kJ.FG g0 rfl) (kJ.FG g0 rfl) (kJ.FG g0 rfl) hI
                                refine z_iload hC (pc := 206) 2 dX14_line_206 rfl ?_
                                refine z_iload hC (pc := 208) 1 dX14_line_208 rfl ?_
                                obtain ⟨hT, hF⟩ := h
                                refine y_icmp_ge hC (pc := 210) 263 hy206_8 hy206_5 dX14_line_210 (by decide) (fun c => ?_) (fun c => ?_)
                                · have h := hT c
                                  exact y_retv hR dX14_line_263 Ws206 (Nat.le_of_ble_eq_true rfl) (Nat.le_of_ble_eq_true rfl) ⟨(rKeep.tr rKeep.rf kJ rfl rfl rfl rfl rfl), h⟩
                                · have h := hF c
                                  refine z_aload_n hC (pc := 213) 0 dX14_line_213 rfl rfl ?_
                                  refine y_get hC (pc := 214) zf14 rOb_0 37 (v := .ref (κ 1037)) dX14_line_214 zw2504 (rv_c rfl) (kk := ?_)
                                  refine z_iload hC (pc := 217) 2 dX14_line_217 rfl ?_
                                  refine z_iconst hC (pc := 219) (v := Int32.ofInt 1) dX14_line_219 (by decide) ?_
                                  obtain ⟨b141, h⟩ := h
                                  refine y_zast hC (pc := 220) (rAr_m rfl) dX14_line_220 b141 (v := 1) (kk := ?_)
                                  have W142 := Ws206.sA (p := 1037) (i := y206_8) (x := (inar .boolean 1)) (inar_rng _ _)
                                  refine z_aload_n hC (pc := 221) 0 dX14_line_221 rfl rfl ?_
                                  refine y_get hC (pc := 222) zf14 rOb_0 7 (v := .ref (κ (rR σ 7))) dX14_line_222 zw2475 (rv_g rfl (kJ.R rfl) g0) (kk := ?_)
                                  refine y_getN hC (pc := 225) zf13 (rOb_k g0) 8 (v := .ref (κ (1000 * ((rR σ 7) + 1) + 8))) dX14_line_225 zw2326 (rv_c rfl) (kk := ?_)
                                  refine z_aload_n hC (pc := 228) 0 dX14_line_228 rfl rfl ?_
                                  refine y_get hC (pc := 229) zf14 rOb_0 7 (v := .ref (κ (rR σ 7))) dX14_line_229 zw2475 (rv_g rfl (kJ.R rfl) g0) (kk := ?_)
                                  refine y_getN hC (pc := 232) zf13 (rOb_k g0) 9 (v := iv (rF s206 (rR σ 7) 9)) dX14_line_232 zw2328 (rv_i (Or.inl rfl) rfl) (kk := ?_)
                                  have h := h (Ws206.f _ _)
                                  refine z_aload_n hC (pc := 235) 0 dX14_line_235 rfl rfl ?_
                                  refine y_get hC (pc := 236) zf14 rOb_0 35 (v := .ref (κ 1035)) dX14_line_236 zw2502 (rv_c rfl) (kk := ?_)
                                  refine z_iload hC (pc := 239) 2 dX14_line_239 rfl ?_
                                  obtain ⟨b143, h⟩ := h
                                  refine y_iald hC (pc := 241) (rAr_m rfl) dX14_line_241 b143 (v := (rA s206 1035 y206_8)) ((A_sA_ne (by decide)).trans rfl) (kk := ?_)
                                  have h := h (Ws206.a _ _)
                                  refine y_i2b hC (pc := 242) dX14_line_242 ?_
                                  obtain ⟨b144, h⟩ := h
                                  refine y_bast hC (pc := 243) (rAr_k g0 rfl rfl) dX14_line_243 b144 (v := (f_i2b (rA s206 1035 y206_8))) (kk := ?_)
                                  have W145 := W142.sA (p := (1000 * ((rR σ 7) + 1) + 8)) (i := (rF s206 (rR σ 7) 9)) (x := (inar .byte (f_i2b (rA s206 1035 y206_8)))) (inar_rng _ _)
                                  refine z_aload_n hC (pc := 244) 0 dX14_line_244 rfl rfl ?_
                                  refine y_get hC (pc := 245) zf14 rOb_0 7 (v := .ref (κ (rR σ 7))) dX14_line_245 zw2475 (rv_g rfl (kJ.R rfl) g0) (kk := ?_)
                                  refine z_dup hC (pc := 248) dX14_line_248 rfl ?_
                                  refine y_getN hC (pc := 249) zf13 (rOb_k g0) 9 (v := iv (rF s206 (rR σ 7) 9)) dX14_line_249 zw2328 (rv_i (Or.inl rfl) rfl) (kk := ?_)
                                  refine z_iconst hC (pc := 252) (v := Int32.ofInt 1) dX14_line_252 (by decide) ?_
                                  refine y_iadd hC (pc := 253) (v := ((rF s206 (rR σ 7) 9) + 1)) dX14_line_253 rfl ?_
                                  obtain ⟨r146, h⟩ := h
                                  refine y_putIN hC (pc := 254) zf13 (rOb_k g0) 9 (x := ((rF s206 (rR σ 7) 9) + 1)) dX14_line_254 zw2328 (Or.inl rfl) rfl rfl (kk := ?_)
                                  have W147 := W145.sF (q := (rR σ 7)) (f := 9) (x := ((rF s206 (rR σ 7) 9) + 1)) r146
                                  refine y_iinc hC (pc := 257) (v := (y206_8 + 1)) (lv' := [(8, iv (y206_8 + 1)), (0, .ref (κ 0)), (5, iv y206_5)]) 2 dX14_line_257 rfl rfl (by decide) rfl ?_
                                  refine z_goto hC (pc := 260) 206 dX14_line_260 (by decide) ?_
                                  refine z_lvs [1, 2, 0] rfl ?_
                                  obtain ⟨r148, h⟩ := h
                                  obtain ⟨hI, hm⟩ := h
                                  exact ih206 (sF (sA (sA s206 1037 y206_8 (inar .boolean 1)) (1000 * ((rR σ 7) + 1) + 8) (rF s206 (rR σ 7) 9) (inar .byte (f_i2b (rA s206 1035 y206_8)))) (rR σ 7) 9 ((rF s206 (rR σ 7) 9) + 1)) y206_5 (y206_8 + 1) W147 hy206_5 r148 (rKeep.tr (rKeep.tr (rKeep.tr (rKeep.tr rKeep.rf kJ rfl rfl rfl rfl rfl) (rKeep.sA0 (f := 37) (by decide)) rfl rfl rfl rfl rfl) (rKeep.sAk (f := 8) g0 (by decide)) rfl rfl rfl rfl rfl) (rKeep.sFk (f := 9) g0) rfl rfl rfl rfl rfl) hI (by omega)
                            refine z_lvs [3, 6, 0] rfl ?_
                            exact j206 _ (sT s104 (rR σ 7) 4 (rA s104 1035 y104_5) (((4096 * (rF s104 (rR σ 7) 9)) + y104_5) - x1)) y104_5 x1 W140 hy104_5 hx1 (rKeep.tr (rKeep.tr rKeep.rf kJ rfl rfl rfl rfl rfl) (rKeep.sAk (f := 4) g0 (by decide)) rfl rfl rfl rfl rfl) h (Nat.le_refl _)
                          · have h := hF c
                            refine z_iload hC (pc := 160) 0 dX14_line_160 rfl ?_
                            refine z_bipush hC (pc := 162) (v := Int32.ofInt 7) dX14_line_162 (by decide) ?_
                            obtain ⟨hT, hF⟩ := h
                            refine y_icmp_eq hC (pc := 164) 168 (Ws104.a _ _) (r_lit rfl) dX14_line_164 (by decide) (fun c => ?_) (fun c => ?_)
                            · have h := hT c
                              refine z_aload_n hC (pc := 168) 1 dX14_line_168 rfl rfl ?_
                              refine y_get hC (pc := 169) zf14 rOb_0 35 (v := .ref (κ 1035)) dX14_line_169 zw2502 (rv_c rfl) (kk := ?_)
                              refine z_iload hC (pc := 172) 4 dX14_line_172 rfl ?_
                              obtain ⟨b149, h⟩ := h
                              refine y_iald hC (pc := 174) (rAr_m rfl) dX14_line_174 b149 (v := (rA s104 1035 y104_5)) rfl (kk := ?_)
                              have h := h (Ws104.a _ _)
                              refine z_istore hC (pc := 175) (lv' := [(7, iv (rA s104 1035 y104_5)), (6, iv (rA s104 1034 y104_5)), (0, .ref (κ 0)), (1, iv x1), (2, iv x2), (5, iv y104_5)]) dX14_line_175 (by decide) rfl ?_
                              refine z_aload_n hC (pc := 177) 2 dX14_line_177 rfl rfl ?_
                              refine y_get hC (pc := 178) zf14 rOb_0 7 (v := .ref (κ (rR σ 7))) dX14_line_178 zw2475 (rv_g rfl (kJ.R rfl) g0) (kk := ?_)
                              refine y_getN hC (pc := 181) zf13 (rOb_k g0) 4 (v := .ref (κ (1000 * ((rR σ 7) + 1) + 4))) dX14_line_181 zw2318 (rv_c rfl) (kk := ?_)
                              refine z_iload hC (pc := 184) 0 dX14_line_184 rfl ?_
                              refine z_sipush hC (pc := 186) (v := Int32.ofInt 4096) dX14_line_186 (by decide) ?_
                              refine z_aload_n hC (pc := 189) 2 dX14_line_189 rfl rfl ?_
                              refine y_get hC (pc := 190) zf14 rOb_0 7 (v := .ref (κ (rR σ 7))) dX14_line_190 zw2475 (rv_g rfl (kJ.R rfl) g0) (kk := ?_)
                              refine y_getN hC (pc := 193) zf13 (rOb_k g0) 9 (v := iv (rF s104 (rR σ 7) 9)) dX14_line_193 zw2328 (rv_i (Or.inl rfl) rfl) (kk := ?_)
                              have h := h (Ws104.f _ _)
                              refine y_imul hC (pc := 196) (v := (4096 * (rF s104 (rR σ 7) 9))) dX14_line_196 rfl ?_
                              refine z_iload hC (pc := 197) 5 dX14_line_197 rfl ?_
                              refine y_iadd hC (pc := 199) (v := ((4096 * (rF s104 (rR σ 7) 9)) + y104_5)) dX14_line_199 rfl ?_
                              refine z_iload_n hC (pc := 200) 3 dX14_line_200 rfl rfl ?_
                              refine y_isub hC (pc := 201) (v := (((4096 * (rF s104 (rR σ 7) 9)) + y104_5) - x1)) dX14_line_201 rfl ?_
                              obtain ⟨b150, h⟩ := h
                              obtain ⟨r151, h⟩ := h
                              refine y_iast hC (pc := 202) (rAr_k g0 rfl rfl) dX14_line_202 b150 (v := (((4096 * (rF s104 (rR σ 7) 9)) + y104_5) - x1)) (kk := ?_)
                              have W152 := Ws104.sA (p := (1000 * ((rR σ 7) + 1) + 4)) (i := (rA s104 1035 y104_5)) (x := (((4096 * (rF s104 (rR σ 7) 9)) + y104_5) - x1)) r151
                              refine z_iload_n hC (pc := 203) 3 dX14_line_203 rfl rfl ?_
                              refine z_istore hC (pc := 204) (lv' := [(8, iv x1), (7, iv (rA s104 1035 y104_5)), (6, iv (rA s104 1034 y104_5)), (0, .ref (κ 0)), (1, iv x1), (2, iv x2), (5, iv y104_5)]) dX14_line_204 (by decide) rfl ?_
                              have j206 : ∀ (d206 : Nat), ∀ (s206 : rS) (y206_5 : Int) (y206_8 : Int), rWF s206 → rng y206_5 → rng y206_8 → rKeep 0 0x200 0x2000000000 0x110 0 σ s206 → inv_X14_line_w_206 σ x1 x2 gg g nn s206 y206_5 y206_8 → (mu_X14_line_w_206 σ x1 x2 gg g nn s206 y206_5 y206_8) ≤ d206 → zS X G 9 (rW G κ s206) [(0, .ref (κ 0)), (5, iv y206_5), (8, iv y206_8)] 0 0 206 [] := by
                                intro d206
                                induction d206 with
                                | zero =>
                                  intro s206 y206_5 y206_8 Ws206 hy206_5 hy206_8 kJ hI hmu
                                  exact absurd hmu (by have := h_206m  s206 y206_5 y206_8 Ws206 hy206_5 hy206_8 (kJ.R rfl) (kJ.F rfl) (kJ.F rfl) (fun i => kJ.A (f := 34) (by decide) rfl) (fun i => kJ.A (f := 35) (by decide) rfl) (fun i => kJ.A (f := 36) (by decide) rfl) (kJ.FG g0 rfl) (kJ.FG g0 rfl) (kJ.FG g0 rfl) hI; omega)
                                | succ d206 ih206 =>
                                  intro s206 y206_5 y206_8 Ws206 hy206_5 hy206_8 kJ hI hmu206
                                  have h := h_206  s206 y206_5 y206_8 Ws206 hy206_5 hy206_8 (kJ.R rfl) (kJ.F rfl) (kJ.F rfl) (fun i => kJ.A (f := 34) (by decide) rfl) (fun i => kJ.A (f := 35) (by decide) rfl) (fun i => kJ.A (f := 36) (by decide) rfl) (kJ.FG g0 rfl) (kJ.FG g0 rfl) (kJ.FG g0 rfl) hI
                                  refine z_iload hC (pc := 206) 2 dX14_line_206 rfl ?_
                                  refine z_iload hC (pc := 208) 1 dX14_line_208 rfl ?_
                                  obtain ⟨hT, hF⟩ := h
                                  refine y_icmp_ge hC (pc := 210) 263 hy206_8 hy206_5 dX14_line_210 (by decide) (fun c => ?_) (fun c => ?_)
                                  · have h := hT c
                                    exact y_retv hR dX14_line_263 Ws206 (Nat.le_of_ble_eq_true rfl) (Nat.le_of_ble_eq_true rfl) ⟨(rKeep.tr rKeep.rf kJ rfl rfl rfl rfl rfl), h⟩
                                  · have h := hF c
                                    refine z_aload_n hC (pc := 213) 0 dX14_line_213 rfl rfl ?_
                                    refine y_get hC (pc := 214) zf14 rOb_0 37 (v := .ref (κ 1037)) dX14_line_214 zw2504 (rv_c rfl) (kk := ?_)
                                    refine z_iload hC (pc := 217) 2 dX14_line_217 rfl ?_
                                    refine z_iconst hC (pc := 219) (v := Int32.ofInt 1) dX14_line_219 (by decide) ?_
                                    obtain ⟨b153, h⟩ := h
                                    refine y_zast hC (pc := 220) (rAr_m rfl) dX14_line_220 b153 (v := 1) (kk := ?_)
                                    have W154 := Ws206.sA (p := 1037) (i := y206_8) (x := (inar .boolean 1)) (inar_rng _ _)
                                    refine z_aload_n hC (pc := 221) 0 dX14_line_221 rfl rfl ?_
                                    refine y_get hC (pc := 222) zf14 rOb_0 7 (v := .ref (κ (rR σ 7))) dX14_line_222 zw2475 (rv_g rfl (kJ.R rfl) g0) (kk := ?_)
                                    refine y_getN hC (pc := 225) zf13 (rOb_k g0) 8 (v := .ref (κ (1000 * ((rR σ 7) + 1) + 8))) dX14_line_225 zw2326 (rv_c rfl) (kk := ?_)
                                    refine z_aload_n hC (pc := 228) 0 dX14_line_228 rfl rfl ?_
                                    refine y_get hC (pc := 229) zf14 rOb_0 7 (v := .ref (κ (rR σ 7))) dX14_line_229 zw2475 (rv_g rfl (kJ.R rfl) g0) (kk := ?_)
                                    refine y_getN hC (pc := 232) zf13 (rOb_k g0) 9 (v := iv (rF s206 (rR σ 7) 9)) dX14_line_232 zw2328 (rv_i (Or.inl rfl) rfl) (kk := ?_)
                                    have h := h (Ws206.f _ _)
                                    refine z_aload_n hC (pc := 235) 0 dX14_line_235 rfl rfl ?_
                                    refine y_get hC (pc := 236) zf14 rOb_0 35 (v := .ref (κ 1035)) dX14_line_236 zw2502 (rv_c rfl) (kk := ?_)
                                    refine z_iload hC (pc := 239) 2 dX14_line_239 rfl ?_
                                    obtain ⟨b155, h⟩ := h
                                    refine y_iald hC (pc := 241) (rAr_m rfl) dX14_line_241 b155 (v := (rA s206 1035 y206_8)) ((A_sA_ne (by decide)).trans rfl) (kk := ?_)
                                    have h := h (Ws206.a _ _)
                                    refine y_i2b hC (pc := 242) dX14_line_242 ?_
                                    obtain ⟨b156, h⟩ := h
                                    refine y_bast hC (pc := 243) (rAr_k g0 rfl rfl) dX14_line_243 b156 (v := (f_i2b (rA s206 1035 y206_8))) (kk := ?_)
                                    have W157 := W154.sA (p := (1000 * ((rR σ 7) + 1) + 8)) (i := (rF s206 (rR σ 7) 9)) (x := (inar .byte (f_i2b (rA s206 1035 y206_8)))) (inar_rng _ _)
                                    refine z_aload_n hC (pc := 244) 0 dX14_line_244 rfl rfl ?_
                                    refine y_get hC (pc := 245) zf14 rOb_0 7 (v := .ref (κ (rR σ 7))) dX14_line_245 zw2475 (rv_g rfl (kJ.R rfl) g0) (kk := ?_)
                                    refine z_dup hC (pc := 248) dX14_line_248 rfl ?_
                                    refine y_getN hC (pc := 249) zf13 (rOb_k g0) 9 (v := iv (rF s206 (rR σ 7) 9)) dX14_line_249 zw2328 (rv_i (Or.inl rfl) rfl) (kk := ?_)
                                    refine z_iconst hC (pc := 252) (v := Int32.ofInt 1) dX14_line_252 (by decide) ?_
                                    refine y_iadd hC (pc := 253) (v := ((rF s206 (rR σ 7) 9) + 1)) dX14_line_253 rfl ?_
                                    obtain ⟨r158, h⟩ := h
                                    refine y_putIN hC (pc := 254) zf13 (rOb_k g0) 9 (x := ((rF s206 (rR σ 7) 9) + 1)) dX14_line_254 zw2328 (Or.inl rfl) rfl rfl (kk := ?_)
                                    have W159 := W157.sF (q := (rR σ 7)) (f := 9) (x := ((rF s206 (rR σ 7) 9) + 1)) r158
                                    refine y_iinc hC (pc := 257) (v := (y206_8 + 1)) (lv' := [(8, iv (y206_8 + 1)), (0, .ref (κ 0)), (5, iv y206_5)]) 2 dX14_line_257 rfl rfl (by decide) rfl ?_
                                    refine z_goto hC (pc := 260) 206 dX14_line_260 (by decide) ?_
                                    refine z_lvs [1, 2, 0] rfl ?_
                                    obtain ⟨r160, h⟩ := h
                                    obtain ⟨hI, hm⟩ := h
                                    exact ih206 (sF (sA (sA s206 1037 y206_8 (inar .boolean 1)) (1000 * ((rR σ 7) + 1) + 8) (rF s206 (rR σ 7) 9) (inar .byte (f_i2b (rA s206 1035 y206_8)))) (rR σ 7) 9 ((rF s206 (rR σ 7) 9) + 1)) y206_5 (y206_8 + 1) W159 hy206_5 r160 (rKeep.tr (rKeep.tr (rKeep.tr (rKeep.tr rKeep.rf kJ rfl rfl rfl rfl rfl) (rKeep.sA0 (f := 37) (by decide)) rfl rfl rfl rfl rfl) (rKeep.sAk (f := 8) g0 (by decide)) rfl rfl rfl rfl rfl) (rKeep.sFk (f := 9) g0) rfl rfl rfl rfl rfl) hI (by omega)
                              refine z_lvs [3, 6, 0] rfl ?_
                              exact j206 _ (sT s104 (rR σ 7) 4 (rA s104 1035 y104_5) (((4096 * (rF s104 (rR σ 7) 9)) + y104_5) - x1)) y104_5 x1 W152 hy104_5 hx1 (rKeep.tr (rKeep.tr rKeep.rf kJ rfl rfl rfl rfl rfl) (rKeep.sAk (f := 4) g0 (by decide)) rfl rfl rfl rfl rfl) h (Nat.le_refl _)
                            · have h := hF c
                              exact y_retv hR dX14_line_167 Ws104 (Nat.le_of_ble_eq_true rfl) (Nat.le_of_ble_eq_true rfl) ⟨(rKeep.tr rKeep.rf kJ rfl rfl rfl rfl rfl), h⟩
                      · have h := hF c
                        exact y_retv hR dX14_line_137 Ws104 (Nat.le_of_ble_eq_true rfl) (Nat.le_of_ble_eq_true rfl) ⟨(rKeep.tr rKeep.rf kJ rfl rfl rfl rfl rfl), h⟩
                  · have h := hF c
                    refine y_iinc hC (pc := 119) (v := (y104_5 + 1)) (lv' := [(5, iv (y104_5 + 1)), (0, .ref (κ 0)), (1, iv x1), (2, iv x2)]) 3 dX14_line_119 rfl rfl (by decide) rfl ?_
                    refine z_goto hC (pc := 122) 104 dX14_line_122 (by decide) ?_
                    refine z_lvs [1, 2, 3, 0] rfl ?_
                    obtain ⟨r161, h⟩ := h
                    obtain ⟨hI, hm⟩ := h
                    exact ih104 s104 (y104_5 + 1) Ws104 r161 (rKeep.tr rKeep.rf kJ rfl rfl rfl rfl rfl) hI (by omega)
            refine z_lvs [1, 2, 3, 0] rfl ?_
            exact j104 _ s8 x1 Ws8 hx1 (rKeep.tr rKeep.rf kJ rfl rfl rfl rfl rfl) h (Nat.le_refl _)
          · have h := hF c
            refine z_iload_n hC (pc := 57) 1 dX14_line_57 rfl rfl ?_
            refine z_istore hC (pc := 58) (lv' := [(5, iv x1), (0, .ref (κ 0)), (1, iv x1), (2, iv x2), (3, iv y8_3), (4, iv y8_4)]) dX14_line_58 (by decide) rfl ?_
            have j60 : ∀ (d60 : Nat), ∀ (s60 : rS) (y60_5 : Int), rWF s60 → rng y60_5 → rKeep 0 0x200 0x2000000000 0x110 0 σ s60 → inv_X14_line_w_60 σ x1 x2 gg g nn s60 y60_5 → (mu_X14_line_w_60 σ x1 x2 gg g nn s60 y60_5) ≤ d60 → zS X G 9 (rW G κ s60) [(0, .ref (κ 0)), (2, iv x2), (5, iv y60_5)] 0 0 60 [] := by
              intro d60
              induction d60 with
              | zero =>
                intro s60 y60_5 Ws60 hy60_5 kJ hI hmu
                exact absurd hmu (by have := h_60m  s60 y60_5 Ws60 hy60_5 (kJ.R rfl) (kJ.F rfl) (kJ.F rfl) (fun i => kJ.A (f := 34) (by decide) rfl) (fun i => kJ.A (f := 35) (by decide) rfl) (fun i => kJ.A (f := 36) (by decide) rfl) (kJ.FG g0 rfl) (kJ.FG g0 rfl) (kJ.FG g0 rfl) hI; omega)
              | succ d60 ih60 =>
                intro s60 y60_5 Ws60 hy60_5 kJ hI hmu60
                have h := h_60  s60 y60_5 Ws60 hy60_5 (kJ.R rfl) (kJ.F rfl) (kJ.F rfl) (fun i => kJ.A (f := 34) (by decide) rfl) (fun i => kJ.A (f := 35) (by decide) rfl) (fun i => kJ.A (f := 36) (by decide) rfl) (kJ.FG g0 rfl) (kJ.FG g0 rfl) (kJ.FG g0 rfl) hI
                refine z_iload hC (pc := 60) 2 dX14_line_60 rfl ?_
                refine z_iload_n hC (pc := 62) 1 dX14_line_62 rfl rfl ?_
                obtain ⟨hT, hF⟩ := h
                refine y_icmp_ge hC (pc := 63) 85 hy60_5 hx2 dX14_line_63 (by decide) (fun c => ?_) (fun c => ?_)
                · have h := hT c
                  refine z_iload_n hC (pc := 85) 1 dX14_line_85 rfl rfl ?_
                  refine z_aload_n hC (pc := 86) 0 dX14_line_86 rfl rfl ?_
                  refine y_get hC (pc := 87) zf14 rOb_0 38 (v := iv (rF s60 0 38)) dX14_line_87 zw2505 (rv_i (Or.inl rfl) rfl) (kk := ?_)
                  have h := h (Ws60.f _ _)
                  obtain ⟨hT, hF⟩ := h
                  refine y_icmp_ge hC (pc := 90) 100 hx2 (Ws60.f _ _) dX14_line_90 (by decide) (fun c => ?_) (fun c => ?_)
                  · have h := hT c
                    exact y_retv hR dX14_line_100 Ws60 (Nat.le_of_ble_eq_true rfl) (Nat.le_of_ble_eq_true rfl) ⟨(rKeep.tr rKeep.rf kJ rfl rfl rfl rfl rfl), h⟩
                  · have h := hF c
                    refine z_aload_n hC (pc := 93) 0 dX14_line_93 rfl rfl ?_
                    refine y_get hC (pc := 94) zf14 rOb_0 37 (v := .ref (κ 1037)) dX14_line_94 zw2504 (rv_c rfl) (kk := ?_)
                    refine z_iload_n hC (pc := 97) 1 dX14_line_97 rfl rfl ?_
                    refine z_iconst hC (pc := 98) (v := Int32.ofInt 1) dX14_line_98 (by decide) ?_
                    obtain ⟨b162, h⟩ := h
                    refine y_zast hC (pc := 99) (rAr_m rfl) dX14_line_99 b162 (v := 1) (kk := ?_)
                    have W163 := Ws60.sA (p := 1037) (i := x2) (x := (inar .boolean 1)) (inar_rng _ _)
                    exact y_retv hR dX14_line_100 W163 (Nat.le_of_ble_eq_true rfl) (Nat.le_of_ble_eq_true rfl) ⟨(rKeep.tr (rKeep.tr rKeep.rf kJ rfl rfl rfl rfl rfl) (rKeep.sA0 (f := 37) (by decide)) rfl rfl rfl rfl rfl), h⟩
                · have h := hF c
                  refine z_aload_n hC (pc := 66) 0 dX14_line_66 rfl rfl ?_
                  refine y_get hC (pc := 67) zf14 rOb_0 37 (v := .ref (κ 1037)) dX14_line_67 zw2504 (rv_c rfl) (kk := ?_)
                  refine z_iload hC (pc := 70) 2 dX14_line_70 rfl ?_
                  refine z_aload_n hC (pc := 72) 0 dX14_line_72 rfl rfl ?_
                  refine z_iload hC (pc := 73) 2 dX14_line_73 rfl ?_
                  obtain ⟨p164, h⟩ := h
                  refine y_callVi hC (pc := 75) (As := [iv y60_5]) (kX14_isSpace l G κ s60 y60_5 Ws60 hy60_5 p164) dmX14_isSpace zf14 rOb_0 dX14_line_75 zw3299 rfl rfl (Nat.le_of_ble_eq_true rfl) (Nat.le_of_ble_eq_true rfl) (Nat.le_of_ble_eq_true rfl) (Nat.le_of_ble_eq_true rfl) (Nat.le_of_ble_eq_true rfl) (kk := fun v75 s75 hv75 Ws75 qs75 => ?_)
                  obtain ⟨es75, qs75⟩ := qs75
                  have es75 := es75.symm
                  subst es75
                  have h := h v75 hv75 qs75
                  obtain ⟨b165, h⟩ := h
                  refine y_zast hC (pc := 78) (rAr_m rfl) dX14_line_78 b165 (v := v75) (kk := ?_)
                  have W166 := Ws60.sA (p := 1037) (i := y60_5) (x := (inar .boolean v75)) (inar_rng _ _)
                  refine y_iinc hC (pc := 79) (v := (y60_5 + 1)) (lv' := [(5, iv (y60_5 + 1)), (0, .ref (κ 0)), (2, iv x2)]) 2 dX14_line_79 rfl rfl (by decide) rfl ?_
                  refine z_goto hC (pc := 82) 60 dX14_line_82 (by decide) ?_
                  refine z_lvs [1, 2, 0] rfl ?_
                  obtain ⟨r167, h⟩ := h
                  obtain ⟨hI, hm⟩ := h
                  exact ih60 (sA s60 1037 y60_5 (inar .boolean v75)) (y60_5 + 1) W166 r167 (rKeep.tr (rKeep.tr rKeep.rf kJ rfl rfl rfl rfl rfl) (rKeep.sA0 (f := 37) (by decide)) rfl rfl rfl rfl rfl) hI (by omega)
            refine z_lvs [1, 3, 0] rfl ?_
            exact j60 _ s8 x1 Ws8 hx1 (rKeep.tr rKeep.rf kJ rfl rfl rfl rfl rfl) h (Nat.le_refl _)
      · have h := hF c
        refine z_aload_n hC (pc := 14) 0 dX14_line_14 rfl rfl ?_
        refine z_iload hC (pc := 15) 5 dX14_line_15 rfl ?_
        obtain ⟨p168, h⟩ := h
        refine y_callVi hC (pc := 17) (As := [iv y8_5]) (kX14_isLineTag l G κ s8 y8_5 Ws8 hy8_5 p168) dmX14_isLineTag zf14 rOb_0 dX14_line_17 zw3295 rfl rfl (Nat.le_of_ble_eq_true rfl) (Nat.le_of_ble_eq_true rfl) (Nat.le_of_ble_eq_true rfl) (Nat.le_of_ble_eq_true rfl) (Nat.le_of_ble_eq_true rfl) (kk := fun v17 s17 hv17 Ws17 qs17 => ?_)
        obtain ⟨es17, qs17⟩ := qs17
        have es17 := es17.symm
        subst es17
        have h := h v17 hv17 qs17
        obtain ⟨hT, hF⟩ := h
        refine y_if_eq hC (pc := 20) 29 hv17 dX14_line_20 (by decide) (fun c => ?_) (fun c => ?_)
        · have h := hT c
          refine z_aload_n hC (pc := 29) 0 dX14_line_29 rfl rfl ?_
          refine z_iload hC (pc := 30) 5 dX14_line_30 rfl ?_
          obtain ⟨p169, h⟩ := h
          refine y_callVi hC (pc := 32) (As := [iv y8_5]) (kX14_isSpace l G κ s8 y8_5 Ws8 hy8_5 p169) dmX14_isSpace zf14 rOb_0 dX14_line_32 zw3299 rfl rfl (Nat.le_of_ble_eq_true rfl) (Nat.le_of_ble_eq_true rfl) (Nat.le_of_ble_eq_true rfl) (Nat.le_of_ble_eq_true rfl) (Nat.le_of_ble_eq_true rfl) (kk := fun v32 s32 hv32 Ws32 qs32 => ?_)
          obtain ⟨es32, qs32⟩ := qs32
          have es32 := es32.symm
          subst es32
          have h := h v32 hv32 qs32
          obtain ⟨hT, hF⟩ := h
          refine y_if_ne hC (pc := 35) 41 hv32 dX14_line_35 (by decide) (fun c => ?_) (fun c => ?_)
          · have h := hT c
            refine y_iinc hC (pc := 41) (v := (y8_5 + 1)) (lv' := [(5, iv (y8_5 + 1)), (0, .ref (κ 0)), (1, iv x1), (2, iv x2), (3, iv y8_3), (4, iv y8_4)]) 5 dX14_line_41 rfl rfl (by decide) rfl ?_
            refine z_goto hC (pc := 44) 8 dX14_line_44 (by decide) ?_
            refine z_lvs [1, 2, 3, 4, 5, 0] rfl ?_
            obtain ⟨r170, h⟩ := h
            obtain ⟨hI, hm⟩ := h
            exact ih8 s8 y8_3 y8_4 (y8_5 + 1) Ws8 hy8_3 hy8_4 r170 (rKeep.tr rKeep.rf kJ rfl rfl rfl rfl rfl) hI (by omega)
          · have h := hF c
            refine y_iinc hC (pc := 38) (v := (y8_4 + 1)) (lv' := [(4, iv (y8_4 + 1)), (0, .ref (κ 0)), (1, iv x1), (2, iv x2), (3, iv y8_3), (5, iv y8_5)]) 4 dX14_line_38 rfl rfl (by decide) rfl ?_
            refine y_iinc hC (pc := 41) (v := (y8_5 + 1)) (lv' := [(5, iv (y8_5 + 1)), (4, iv (y8_4 + 1)), (0, .ref (κ 0)), (1, iv x1), (2, iv x2), (3, iv y8_3)]) 5 dX14_line_41 rfl rfl (by decide) rfl ?_
            refine z_goto hC (pc := 44) 8 dX14_line_44 (by decide) ?_
            refine z_lvs [2, 3, 4, 5, 1, 0] rfl ?_
            obtain ⟨r171, h⟩ := h
            obtain ⟨r172, h⟩ := h
            obtain ⟨hI, hm⟩ := h
            exact ih8 s8 y8_3 (y8_4 + 1) (y8_5 + 1) Ws8 hy8_3 r171 r172 (rKeep.tr rKeep.rf kJ rfl rfl rfl rfl rfl) hI (by omega)
        · have h := hF c
          refine y_iinc hC (pc := 23) (v := (y8_3 + 1)) (lv' := [(3, iv (y8_3 + 1)), (0, .ref (κ 0)), (1, iv x1), (2, iv x2), (4, iv y8_4), (5, iv y8_5)]) 3 dX14_line_23 rfl rfl (by decide) rfl ?_
          refine z_goto hC (pc := 26) 41 dX14_line_26 (by decide) ?_
          refine y_iinc hC (pc := 41) (v := (y8_5 + 1)) (lv' := [(5, iv (y8_5 + 1)), (3, iv (y8_3 + 1)), (0, .ref (κ 0)), (1, iv x1), (2, iv x2), (4, iv y8_4)]) 5 dX14_line_41 rfl rfl (by decide) rfl ?_
          refine z_goto hC (pc := 44) 8 dX14_line_44 (by decide) ?_
          refine z_lvs [2, 3, 4, 1, 5, 0] rfl ?_
          obtain ⟨r173, h⟩ := h
          obtain ⟨r174, h⟩ := h
          obtain ⟨hI, hm⟩ := h
          exact ih8 s8 (y8_3 + 1) y8_4 (y8_5 + 1) Ws8 r173 hy8_4 r174 (rKeep.tr rKeep.rf kJ rfl rfl rfl rfl rfl) hI (by omega)
  refine z_lvs [3, 4, 5, 2, 1, 0] rfl ?_
  exact j8 _ σ 0 0 x1 hwf (r_lit rfl) (r_lit rfl) hx1 rKeep.rf h (Nat.le_refl _)
theorem kX14_line_w (l : Launch) (G : zG) (κ : Nat → Nat) (σ : rS) (x1 : Int) (x2 : Int) (gg : Nat) (g : Nat → Int → Int) (nn : Int) (hwf : rWF σ) (hx1 : rng x1) (hx2 : rng x2) (hp : pre_X14_line_w σ x1 x2 gg g nn) : rMv l G κ yX14_line cX14_line 9 2 21 [.ref (κ 0), iv x1, iv x2] σ (fun s => rKeep 0 0x200 0x2000000000 0x110 0 σ s ∧ post_X14_line_w σ x1 x2 gg g nn s) := wX14_line_w l G κ σ x1 x2 gg g nn hwf hx1 hx2 (post_X14_line_w σ x1 x2 gg g nn) (vX14_line_w σ x1 x2 gg g nn hwf hx1 hx2 hp) (vX14_line_w_206 σ x1 x2 gg g nn hwf hx1 hx2 hp) (vX14_line_w_206m σ x1 x2 gg g nn hwf hx1 hx2 hp) (vX14_line_w_104 σ x1 x2 gg g nn hwf hx1 hx2 hp) (vX14_line_w_104m σ x1 x2 gg g nn hwf hx1 hx2 hp) (vX14_line_w_60 σ x1 x2 gg g nn hwf hx1 hx2 hp) (vX14_line_w_60m σ x1 x2 gg g nn hwf hx1 hx2 hp) (vX14_line_w_8 σ x1 x2 gg g nn hwf hx1 hx2 hp) (vX14_line_w_8m σ x1 x2 gg g nn hwf hx1 hx2 hp)
def pre_X14_lines_w (σ : rS) (x1 : Int) (gg : Nat) (g : Nat → Int → Int) (nn : Int) : Prop := rR σ 7 = gg ∧ rgk gg ∧ 0 ≤ x1 ∧ x1 ≤ (rF σ 0 38) ∧ (rF σ 0 38) ≤ 8990 ∧ (rF σ 0 38) - x1 ≤ 4090 ∧ 0 ≤ (rF σ gg 9) ∧ (rF σ gg 9) + ((rF σ 0 38) - x1) ≤ 59990 ∧ WNp σ ∧ WL σ gg g nn x1 (rF σ 0 38) ∧ GS σ gg g ∧ nn ≤ (rF σ gg 7) ∧ (rF σ gg 7) ≤ 50000
def post_X14_lines_w (σ : rS) (x1 : Int) (gg : Nat) (g : Nat → Int → Int) (nn : Int) (σ' : rS) : Prop := (rF σ gg 9) ≤ (rF σ' gg 9) ∧ (rF σ' gg 9) ≤ (rF σ gg 9) + ((rF σ 0 38) - x1) ∧ WNp σ' ∧ GS σ' gg g ∧ RG (sF σ gg 7 nn) σ' gg 0
def inv_X14_lines_w_2 (σ : rS) (x1 : Int) (gg : Nat) (g : Nat → Int → Int) (nn : Int)  (s : rS) (fr : Int) : Prop := x1 ≤ fr ∧ fr ≤ (rF σ 0 38) + 1 ∧ (rF σ gg 9) ≤ (rF s gg 9) ∧ (rF s gg 9) + x1 ≤ (rF σ gg 9) + fr ∧ (rF s gg 9) + x1 ≤ (rF σ gg 9) + (rF σ 0 38) ∧ GS s gg g ∧ RG (sF σ gg 7 nn) s gg 0 ∧ WNp s
def mu_X14_lines_w_2 (σ : rS) (x1 : Int) (gg : Nat) (g : Nat → Int → Int) (nn : Int) (s : rS) (fr : Int) : Nat := (1 + ((rF σ 0 38) + 1 - fr).toNat)
def inv_X14_lines_w_12 (σ : rS) (x1 : Int) (gg : Nat) (g : Nat → Int → Int) (nn : Int) (m2 : Nat) (s : rS) (fr : Int) (en : Int) : Prop := x1 ≤ fr ∧ fr < (rF σ 0 38) ∧ fr ≤ en ∧ en ≤ (rF σ 0 38) ∧ ((rF σ 0 38) + 1 - fr).toNat + 1 ≤ m2 ∧ (rF σ gg 9) ≤ (rF s gg 9) ∧ (rF s gg 9) + x1 ≤ (rF σ gg 9) + fr ∧ GS s gg g ∧ RG (sF σ gg 7 nn) s gg 0 ∧ WNp s
def mu_X14_lines_w_12 (σ : rS) (x1 : Int) (gg : Nat) (g : Nat → Int → Int) (nn : Int) (s : rS) (fr : Int) (en : Int) : Nat := (1 + ((rF σ 0 38) - en).toNat)
def VC_X14_lines_w (σ : rS) (x1 : Int) (gg : Nat) (g : Nat → Int → Int) (nn : Int) (Q : rS → Prop) : Prop := rgk (rR σ 7) ∧ (inv_X14_lines_w_2 σ x1 gg g nn σ x1)
def VC_X14_lines_w_12 (σ : rS) (x1 : Int) (gg : Nat) (g : Nat → Int → Int) (nn : Int) (Q : rS → Prop) : Prop := ∀ (m2 : Nat) (s12 : rS) (y12_2 : Int) (y12_3 : Int), rWF s12 → rng y12_2 → rng y12_3 → rR s12 7 = rR σ 7 → rF s12 0 38 = rF σ 0 38 → rF s12 0 42 = rF σ 0 42 → (∀ i, rA s12 1034 i = rA σ 1034 i) → (∀ i, rA s12 1035 i = rA σ 1035 i) → (∀ i, rA s12 1036 i = rA σ 1036 i) → rF s12 (rR σ 7) 7 = rF σ (rR σ 7) 7 → rF s12 (rR σ 7) 12 = rF σ (rR σ 7) 12 → rF s12 (rR σ 7) 38 = rF σ (rR σ 7) 38 → inv_X14_lines_w_12 σ x1 gg g nn m2 s12 y12_2 y12_3 → ((rng (rF s12 0 38) → (((rF s12 0 38) ≤ y12_3 → ∃ (g10 : Nat → Int → Int), pre_X14_line_w s12 y12_2 y12_3 gg g10 nn ∧ (∀ (s39 : rS), rWF s39 → rR s39 7 = rR s12 7 → rF s39 0 38 = rF s12 0 38 → rF s39 0 42 = rF s12 0 42 → (∀ i, rA s39 1034 i = rA s12 1034 i) → (∀ i, rA s39 1035 i = rA s12 1035 i) → (∀ i, rA s39 1036 i = rA s12 1036 i) → rF s39 (rR σ 7) 7 = rF s12 (rR σ 7) 7 → rF s39 (rR σ 7) 12 = rF s12 (rR σ 7) 12 → rF s39 (rR σ 7) 38 = rF s12 (rR σ 7) 38 → post_X14_line_w s12 y12_2 y12_3 gg g10 nn s39 → rng (y12_3 + 1) ∧ (inv_X14_lines_w_2 σ x1 gg g nn s39 (y12_3 + 1) ∧ (mu_X14_lines_w_2 σ x1 gg g nn s39 (y12_3 + 1)) < m2))) ∧ (¬ (rF s12 0 38) ≤ y12_3 → (0 ≤ y12_3 ∧ y12_3 < 9000) ∧ (rng (rA s12 1034 y12_3) → (((rA s12 1034 y12_3) = 2 → ∃ (g14 : Nat → Int → Int), pre_X14_line_w s12 y12_2 y12_3 gg g14 nn ∧ (∀ (s39 : rS), rWF s39 → rR s39 7 = rR s12 7 → rF s39 0 38 = rF s12 0 38 → rF s39 0 42 = rF s12 0 42 → (∀ i, rA s39 1034 i = rA s12 1034 i) → (∀ i, rA s39 1035 i = rA s12 1035 i) → (∀ i, rA s39 1036 i = rA s12 1036 i) → rF s39 (rR σ 7) 7 = rF s12 (rR σ 7) 7 → rF s39 (rR σ 7) 12 = rF s12 (rR σ 7) 12 → rF s39 (rR σ 7) 38 = rF s12 (rR σ 7) 38 → post_X14_line_w s12 y12_2 y12_3 gg g14 nn s39 → rng (y12_3 + 1) ∧ (inv_X14_lines_w_2 σ x1 gg g nn s39 (y12_3 + 1) ∧ (mu_X14_lines_w_2 σ x1 gg g nn s39 (y12_3 + 1)) < m2))) ∧ (¬ (rA s12 1034 y12_3) = 2 → rng (y12_3 + 1) ∧ (inv_X14_lines_w_12 σ x1 gg g nn m2 s12 y12_2 (y12_3 + 1) ∧ (mu_X14_lines_w_12 σ x1 gg g nn s12 y12_2 (y12_3 + 1)) < (mu_X14_lines_w_12 σ x1 gg g nn s12 y12_2 y12_3)))))))))
def VC_X14_lines_w_12m (σ : rS) (x1 : Int) (gg : Nat) (g : Nat → Int → Int) (nn : Int) : Prop := ∀ (m2 : Nat) (s12 : rS) (y12_2 : Int) (y12_3 : Int), rWF s12 → rng y12_2 → rng y12_3 → rR s12 7 = rR σ 7 → rF s12 0 38 = rF σ 0 38 → rF s12 0 42 = rF σ 0 42 → (∀ i, rA s12 1034 i = rA σ 1034 i) → (∀ i, rA s12 1035 i = rA σ 1035 i) → (∀ i, rA s12 1036 i = rA σ 1036 i) → rF s12 (rR σ 7) 7 = rF σ (rR σ 7) 7 → rF s12 (rR σ 7) 12 = rF σ (rR σ 7) 12 → rF s12 (rR σ 7) 38 = rF σ (rR σ 7) 38 → inv_X14_lines_w_12 σ x1 gg g nn m2 s12 y12_2 y12_3 → 0 < (mu_X14_lines_w_12 σ x1 gg g nn s12 y12_2 y12_3)
def VC_X14_lines_w_2 (σ : rS) (x1 : Int) (gg : Nat) (g : Nat → Int → Int) (nn : Int) (Q : rS → Prop) : Prop := ∀ (s2 : rS) (y2_2 : Int), rWF s2 → rng y2_2 → rR s2 7 = rR σ 7 → rF s2 0 38 = rF σ 0 38 → rF s2 0 42 = rF σ 0 42 → (∀ i, rA s2 1034 i = rA σ 1034 i) → (∀ i, rA s2 1035 i = rA σ 1035 i) → (∀ i, rA s2 1036 i = rA σ 1036 i) → rF s2 (rR σ 7) 7 = rF σ (rR σ 7) 7 → rF s2 (rR σ 7) 12 = rF σ (rR σ 7) 12 → rF s2 (rR σ 7) 38 = rF σ (rR σ 7) 38 → inv_X14_lines_w_2 σ x1 gg g nn s2 y2_2 → ((rng (rF s2 0 38) → (((rF s2 0 38) ≤ y2_2 → Q s2) ∧ (¬ (rF s2 0 38) ≤ y2_2 → (inv_X14_lines_w_12 σ x1 gg g nn (mu_X14_lines_w_2 σ x1 gg g nn s2 y2_2) s2 y2_2 y2_2)))))
def VC_X14_lines_w_2m (σ : rS) (x1 : Int) (gg : Nat) (g : Nat → Int → Int) (nn : Int) : Prop := ∀ (s2 : rS) (y2_2 : Int), rWF s2 → rng y2_2 → rR s2 7 = rR σ 7 → rF s2 0 38 = rF σ 0 38 → rF s2 0 42 = rF σ 0 42 → (∀ i, rA s2 1034 i = rA σ 1034 i) → (∀ i, rA s2 1035 i = rA σ 1035 i) → (∀ i, rA s2 1036 i = rA σ 1036 i) → rF s2 (rR σ 7) 7 = rF σ (rR σ 7) 7 → rF s2 (rR σ 7) 12 = rF σ (rR σ 7) 12 → rF s2 (rR σ 7) 38 = rF σ (rR σ 7) 38 → inv_X14_lines_w_2 σ x1 gg g nn s2 y2_2 → 0 < (mu_X14_lines_w_2 σ x1 gg g nn s2 y2_2)
set_option maxHeartbeats 20000000 in
theorem vX14_lines_w (σ : rS) (x1 : Int) (gg : Nat) (g : Nat → Int → Int) (nn : Int) (hwf : rWF σ) (hx1 : rng x1) (hp : pre_X14_lines_w σ x1 gg g nn) : VC_X14_lines_w σ x1 gg g nn (post_X14_lines_w σ x1 gg g nn) := by
  unfold pre_X14_lines_w at hp
  obtain ⟨hp_1, hp_2, hp_3, hp_4, hp_5, hp_6, hp_7, hp_8, hp_9, hp_10, hp_11, hp_12, hp_13⟩ := hp
  unfold rng at hx1
  subst hp_1
  have R0 := RG.rf7 hp_2 hp_12
  unfold VC_X14_lines_w
  refine ⟨(by (all_goals (repeat' (first | with_reducible intro _ | with_reducible apply And.intro))); all_goals (first | assumption | trivial | omega | (have zz_ := fz_z (by assumption); omega) | (split <;> omega) | (exact WL.cg hp_10 (by assumption) (by assumption) (by assumption) (by omega) (by omega)) | (exact RG.t7 hp_2 (by assumption) (by assumption)) | done)), ?_⟩
  exact (by (try simp only [inv_X14_lines_w_2]); (all_goals (repeat' (first | with_reducible intro _ | with_reducible apply And.intro))); all_goals (first | assumption | trivial | omega | (have zz_ := fz_z (by assumption); omega) | (split <;> omega) | (exact WL.cg hp_10 (by assumption) (by assumption) (by assumption) (by omega) (by omega)) | (exact RG.t7 hp_2 (by assumption) (by assumption)) | done))
set_option maxHeartbeats 20000000 in
theorem vX14_lines_w_12 (σ : rS) (x1 : Int) (gg : Nat) (g : Nat → Int → Int) (nn : Int) (hwf : rWF σ) (hx1 : rng x1) (hp : pre_X14_lines_w σ x1 gg g nn) : VC_X14_lines_w_12 σ x1 gg g nn (post_X14_lines_w σ x1 gg g nn) := by
  unfold pre_X14_lines_w at hp
  obtain ⟨hp_1, hp_2, hp_3, hp_4, hp_5, hp_6, hp_7, hp_8, hp_9, hp_10, hp_11, hp_12, hp_13⟩ := hp
  unfold rng at hx1
  subst hp_1
  have R0 := RG.rf7 hp_2 hp_12
  unfold VC_X14_lines_w_12
  intro m2 s12 y12_2 y12_3 Ws12 hy12_2 hy12_3 e12_0 e12_1 e12_2 e12_3 e12_4 e12_5 e12_6 e12_7 e12_8 I12
  have Ks12 : rR s12 7 = rR σ 7 := by omega
  unfold inv_X14_lines_w_12 at I12
  obtain ⟨I12_1, I12_2, I12_3, I12_4, I12_5, I12_6, I12_7, I12_8, I12_9, I12_10⟩ := I12
  (try simp only [Ks12] at I12_1 I12_2 I12_3 I12_4 I12_5 I12_6 I12_7 I12_8 I12_9 I12_10)
  intro hr_; unfold rng at hr_
  refine ⟨fun c17 => ?_, fun c17 => ?_⟩
  · refine ⟨g, ?_⟩
    refine ⟨(by (try simp only [pre_X14_line_w, Ks12]); (all_goals (repeat' (first | with_reducible intro _ | with_reducible apply And.intro))); all_goals (first | assumption | trivial | omega | (have zz_ := fz_z (by assumption); omega) | (split <;> omega) | (exact WL.cg hp_10 (by assumption) (by assumption) (by assumption) (by omega) (by omega)) | (exact RG.t7 hp_2 (by assumption) (by assumption)) | done)), ?_⟩
    intro s39 Ws39 e39_0 e39_1 e39_2 e39_3 e39_4 e39_5 e39_6 e39_7 e39_8 q39
    unfold post_X14_line_w at q39
    obtain ⟨q39_1, q39_2, q39_3, q39_4, q39_5⟩ := q39
    (try simp only [Ks12] at q39_1 q39_2 q39_3 q39_4 q39_5 e39_0 e39_1 e39_2 e39_3 e39_4 e39_5 e39_6 e39_7 e39_8)
    have Ks39 : rR s39 7 = rR σ 7 := by first | assumption | ((try simp only [rR_sF, rR_sA, rR_sT, rR_sL] at e39_0 e39_1 e39_2 e39_3 e39_4 e39_5 e39_6 e39_7 e39_8); omega)
    refine ⟨(by (try simp only [rng, Ks39]); (all_goals (repeat' (first | with_reducible intro _ | with_reducible apply And.intro))); all_goals (first | assumption | trivial | omega | (have zz_ := fz_z (by assumption); omega) | (split <;> omega) | (exact WL.cg hp_10 (by assumption) (by assumption) (by assumption) (by omega) (by omega)) | (exact RG.t7 hp_2 (by assumption) (by assumption)) | done)), ?_⟩
    exact (by (try simp only [inv_X14_lines_w_2, mu_X14_lines_w_2, Ks39]); (all_goals (repeat' (first | with_reducible intro _ | with_reducible apply And.intro))); all_goals (first | assumption | trivial | omega | (have zz_ := fz_z (by assumption); omega) | (split <;> omega) | (exact WL.cg hp_10 (by assumption) (by assumption) (by assumption) (by omega) (by omega)) | (exact RG.t7 hp_2 (by assumption) (by assumption)) | done))
  · refine ⟨(by (try simp only [Ks12]); (all_goals (repeat' (first | with_reducible intro _ | with_reducible apply And.intro))); all_goals (first | assumption | trivial | omega | (have zz_ := fz_z (by assumption); omega) | (split <;> omega) | (exact WL.cg hp_10 (by assumption) (by assumption) (by assumption) (by omega) (by omega)) | (exact RG.t7 hp_2 (by assumption) (by assumption)) | done)), ?_⟩
    intro hr_; unfold rng at hr_
    refine ⟨fun c27 => ?_, fun c27 => ?_⟩
    · refine ⟨g, ?_⟩
      refine ⟨(by (try simp only [pre_X14_line_w, Ks12]); (all_goals (repeat' (first | with_reducible intro _ | with_reducible apply And.intro))); all_goals (first | assumption | trivial | omega | (have zz_ := fz_z (by assumption); omega) | (split <;> omega) | (exact WL.cg hp_10 (by assumption) (by assumption) (by assumption) (by omega) (by omega)) | (exact RG.t7 hp_2 (by assumption) (by assumption)) | done)), ?_⟩
      intro s39 Ws39 e39_0 e39_1 e39_2 e39_3 e39_4 e39_5 e39_6 e39_7 e39_8 q39
      unfold post_X14_line_w at q39
      obtain ⟨q39_1, q39_2, q39_3, q39_4, q39_5⟩ := q39
      (try simp only [Ks12] at q39_1 q39_2 q39_3 q39_4 q39_5 e39_0 e39_1 e39_2 e39_3 e39_4 e39_5 e39_6 e39_7 e39_8)
      have Ks39 : rR s39 7 = rR σ 7 := by first | assumption | ((try simp only [rR_sF, rR_sA, rR_sT, rR_sL] at e39_0 e39_1 e39_2 e39_3 e39_4 e39_5 e39_6 e39_7 e39_8); omega)
      refine ⟨(by (try simp only [rng, Ks39]); (all_goals (repeat' (first | with_reducible intro _ | with_reducible apply And.intro))); all_goals (first | assumption | trivial | omega | (have zz_ := fz_z (by assumption); omega) | (split <;> omega) | (exact WL.cg hp_10 (by assumption) (by assumption) (by assumption) (by omega) (by omega)) | (exact RG.t7 hp_2 (by assumption) (by assumption)) | done)), ?_⟩
      exact (by (try simp only [inv_X14_lines_w_2, mu_X14_lines_w_2, Ks39]); (all_goals (repeat' (first | with_reducible intro _ | with_reducible apply And.intro))); all_goals (first | assumption | trivial | omega | (have zz_ := fz_z (by assumption); omega) | (split <;> omega) | (exact WL.cg hp_10 (by assumption) (by assumption) (by assumption) (by omega) (by omega)) | (exact RG.t7 hp_2 (by assumption) (by assumption)) | done))
    · refine ⟨(by (try simp only [rng, Ks12]); (all_goals (repeat' (first | with_reducible intro _ | with_reducible apply And.intro))); all_goals (first | assumption | trivial | omega | (have zz_ := fz_z (by assumption); omega) | (split <;> omega) | (exact WL.cg hp_10 (by assumption) (by assumption) (by assumption) (by omega) (by omega)) | (exact RG.t7 hp_2 (by assumption) (by assumption)) | done)), ?_⟩
      exact (by (try simp only [inv_X14_lines_w_12, mu_X14_lines_w_12, mu_X14_lines_w_12, Ks12]); (all_goals (repeat' (first | with_reducible intro _ | with_reducible apply And.intro))); all_goals (first | assumption | trivial | omega | (have zz_ := fz_z (by assumption); omega) | (split <;> omega) | (exact WL.cg hp_10 (by assumption) (by assumption) (by assumption) (by omega) (by omega)) | (exact RG.t7 hp_2 (by assumption) (by assumption)) | done))
set_option maxHeartbeats 20000000 in
theorem vX14_lines_w_12m (σ : rS) (x1 : Int) (gg : Nat) (g : Nat → Int → Int) (nn : Int) (hwf : rWF σ) (hx1 : rng x1) (hp : pre_X14_lines_w σ x1 gg g nn) : VC_X14_lines_w_12m σ x1 gg g nn := by
  unfold pre_X14_lines_w at hp
  obtain ⟨hp_1, hp_2, hp_3, hp_4, hp_5, hp_6, hp_7, hp_8, hp_9, hp_10, hp_11, hp_12, hp_13⟩ := hp
  unfold rng at hx1
  subst hp_1
  have R0 := RG.rf7 hp_2 hp_12
  unfold VC_X14_lines_w_12m
  (try simp only [inv_X14_lines_w_12, mu_X14_lines_w_12]); (all_goals (repeat' (first | with_reducible intro _ | with_reducible apply And.intro))); all_goals (first | assumption | omega | grind (splits := 20))
set_option maxHeartbeats 20000000 in
theorem vX14_lines_w_2 (σ : rS) (x1 : Int) (gg : Nat) (g : Nat → Int → Int) (nn : Int) (hwf : rWF σ) (hx1 : rng x1) (hp : pre_X14_lines_w σ x1 gg g nn) : VC_X14_lines_w_2 σ x1 gg g nn (post_X14_lines_w σ x1 gg g nn) := by
  unfold pre_X14_lines_w at hp
  obtain ⟨hp_1, hp_2, hp_3, hp_4, hp_5, hp_6, hp_7, hp_8, hp_9, hp_10, hp_11, hp_12, hp_13⟩ := hp
  unfold rng at hx1
  subst hp_1
  have R0 := RG.rf7 hp_2 hp_12
  unfold VC_X14_lines_w_2
  intro s2 y2_2 Ws2 hy2_2 e2_0 e2_1 e2_2 e2_3 e2_4 e2_5 e2_6 e2_7 e2_8 I2
  have Ks2 : rR s2 7 = rR σ 7 := by omega
  unfold inv_X14_lines_w_2 at I2
  obtain ⟨I2_1, I2_2, I2_3, I2_4, I2_5, I2_6, I2_7, I2_8⟩ := I2
  (try simp only [Ks2] at I2_1 I2_2 I2_3 I2_4 I2_5 I2_6 I2_7 I2_8)
  intro hr_; unfold rng at hr_
  refine ⟨fun c7 => ?_, fun c7 => ?_⟩
  · exact (by (try simp only [post_X14_lines_w, Ks2]); (all_goals (repeat' (first | with_reducible intro _ | with_reducible apply And.intro))); all_goals (first | assumption | trivial | omega | (have zz_ := fz_z (by assumption); omega) | (split <;> omega) | (exact WL.cg hp_10 (by assumption) (by assumption) (by assumption) (by omega) (by omega)) | (exact RG.t7 hp_2 (by assumption) (by assumption)) | done))
  · exact (by (try simp only [inv_X14_lines_w_12, mu_X14_lines_w_2, Ks2]); (all_goals (repeat' (first | with_reducible intro _ | with_reducible apply And.intro))); all_goals (first | assumption | trivial | omega | (have zz_ := fz_z (by assumption); omega) | (split <;> omega) | (exact WL.cg hp_10 (by assumption) (by assumption) (by assumption) (by omega) (by omega)) | (exact RG.t7 hp_2 (by assumption) (by assumption)) | done))
set_option maxHeartbeats 20000000 in
theorem vX14_lines_w_2m (σ : rS) (x1 : Int) (gg : Nat) (g : Nat → Int → Int) (nn : Int) (hwf : rWF σ) (hx1 : rng x1) (hp : pre_X14_lines_w σ x1 gg g nn) : VC_X14_lines_w_2m σ x1 gg g nn := by
  unfold pre_X14_lines_w at hp
  obtain ⟨hp_1, hp_2, hp_3, hp_4, hp_5, hp_6, hp_7, hp_8, hp_9, hp_10, hp_11, hp_12, hp_13⟩ := hp
  unfold rng at hx1
  subst hp_1
  have R0 := RG.rf7 hp_2 hp_12
  unfold VC_X14_lines_w_2m
  (try simp only [inv_X14_lines_w_2, mu_X14_lines_w_2]); (all_goals (repeat' (first | with_reducible intro _ | with_reducible apply And.intro))); all_goals (first | assumption | omega | grind (splits := 20))
theorem wX14_lines_w (l : Launch) (G : zG) (κ : Nat → Nat) (σ : rS) (x1 : Int) (gg : Nat) (g : Nat → Int → Int) (nn : Int) (hwf : rWF σ) (hx1 : rng x1) (Q : rS → Prop) (h : VC_X14_lines_w σ x1 gg g nn Q) (h_12 : VC_X14_lines_w_12 σ x1 gg g nn Q) (h_12m : VC_X14_lines_w_12m σ x1 gg g nn) (h_2 : VC_X14_lines_w_2 σ x1 gg g nn Q) (h_2m : VC_X14_lines_w_2m σ x1 gg g nn) : rMv l G κ yX14_lines cX14_lines 4 3 49 [.ref (κ 0), iv x1] σ (fun s => rKeep 0 0x200 0x2000000000 0x110 0 σ s ∧ Q s) := by
  refine zMv.intro (by decide +kernel) (Nat.le_of_ble_eq_true rfl) (fun X hC hR => ?_)
  obtain ⟨g0, h⟩ := h
  refine z_iload_n hC (pc := 0) 1 dX14_lines_0 rfl rfl ?_
  refine z_istore_n hC (pc := 1) (lv' := [(2, iv x1), (0, .ref (κ 0)), (1, iv x1)]) dX14_lines_1 rfl (by decide) rfl ?_
  have j2 : ∀ (d2 : Nat), ∀ (s2 : rS) (y2_2 : Int), rWF s2 → rng y2_2 → rKeep 0 0x200 0x2000000000 0x110 0 σ s2 → inv_X14_lines_w_2 σ x1 gg g nn s2 y2_2 → (mu_X14_lines_w_2 σ x1 gg g nn s2 y2_2) ≤ d2 → zS X G 4 (rW G κ s2) [(0, .ref (κ 0)), (2, iv y2_2)] 0 0 2 [] := by
    intro d2
    induction d2 with
    | zero =>
      intro s2 y2_2 Ws2 hy2_2 kJ hI hmu
      exact absurd hmu (by have := h_2m  s2 y2_2 Ws2 hy2_2 (kJ.R rfl) (kJ.F rfl) (kJ.F rfl) (fun i => kJ.A (f := 34) (by decide) rfl) (fun i => kJ.A (f := 35) (by decide) rfl) (fun i => kJ.A (f := 36) (by decide) rfl) (kJ.FG g0 rfl) (kJ.FG g0 rfl) (kJ.FG g0 rfl) hI; omega)
    | succ d2 ih2 =>
      intro s2 y2_2 Ws2 hy2_2 kJ hI hmu2
      have h := h_2  s2 y2_2 Ws2 hy2_2 (kJ.R rfl) (kJ.F rfl) (kJ.F rfl) (fun i => kJ.A (f := 34) (by decide) rfl) (fun i => kJ.A (f := 35) (by decide) rfl) (fun i => kJ.A (f := 36) (by decide) rfl) (kJ.FG g0 rfl) (kJ.FG g0 rfl) (kJ.FG g0 rfl) hI
      refine z_iload_n hC (pc := 2) 1 dX14_lines_2 rfl rfl ?_
      refine z_aload_n hC (pc := 3) 0 dX14_lines_3 rfl rfl ?_
      refine y_get hC (pc := 4) zf14 rOb_0 38 (v := iv (rF s2 0 38)) dX14_lines_4 zw2505 (rv_i (Or.inl rfl) rfl) (kk := ?_)
      have h := h (Ws2.f _ _)
      obtain ⟨hT, hF⟩ := h
      refine y_icmp_ge hC (pc := 7) 49 hy2_2 (Ws2.f _ _) dX14_lines_7 (by decide) (fun c => ?_) (fun c => ?_)
      · have h := hT c
        exact y_retv hR dX14_lines_49 Ws2 (Nat.le_of_ble_eq_true rfl) (Nat.le_of_ble_eq_true rfl) ⟨(rKeep.tr rKeep.rf kJ rfl rfl rfl rfl rfl), h⟩
      · have h := hF c
        refine z_iload_n hC (pc := 10) 1 dX14_lines_10 rfl rfl ?_
        refine z_istore_n hC (pc := 11) (lv' := [(3, iv y2_2), (0, .ref (κ 0)), (2, iv y2_2)]) dX14_lines_11 rfl (by decide) rfl ?_
        have j12 : ∀ (d12 : Nat), ∀ (s12 : rS) (y12_2 : Int) (y12_3 : Int), rWF s12 → rng y12_2 → rng y12_3 → rKeep 0 0x200 0x2000000000 0x110 0 σ s12 → inv_X14_lines_w_12 σ x1 gg g nn (mu_X14_lines_w_2 σ x1 gg g nn s2 y2_2) s12 y12_2 y12_3 → (mu_X14_lines_w_12 σ x1 gg g nn s12 y12_2 y12_3) ≤ d12 → zS X G 4 (rW G κ s12) [(0, .ref (κ 0)), (2, iv y12_2), (3, iv y12_3)] 0 0 12 [] := by
          intro d12
          induction d12 with
          | zero =>
            intro s12 y12_2 y12_3 Ws12 hy12_2 hy12_3 kJ hI hmu
            exact absurd hmu (by have := h_12m (mu_X14_lines_w_2 σ x1 gg g nn s2 y2_2) s12 y12_2 y12_3 Ws12 hy12_2 hy12_3 (kJ.R rfl) (kJ.F rfl) (kJ.F rfl) (fun i => kJ.A (f := 34) (by decide) rfl) (fun i => kJ.A (f := 35) (by decide) rfl) (fun i => kJ.A (f := 36) (by decide) rfl) (kJ.FG g0 rfl) (kJ.FG g0 rfl) (kJ.FG g0 rfl) hI; omega)
          | succ d12 ih12 =>
            intro s12 y12_2 y12_3 Ws12 hy12_2 hy12_3 kJ hI hmu12
            have h := h_12 (mu_X14_lines_w_2 σ x1 gg g nn s2 y2_2) s12 y12_2 y12_3 Ws12 hy12_2 hy12_3 (kJ.R rfl) (kJ.F rfl) (kJ.F rfl) (fun i => kJ.A (f := 34) (by decide) rfl) (fun i => kJ.A (f := 35) (by decide) rfl) (fun i => kJ.A (f := 36) (by decide) rfl) (kJ.FG g0 rfl) (kJ.FG g0 rfl) (kJ.FG g0 rfl) hI
            refine z_iload_n hC (pc := 12) 2 dX14_lines_12 rfl rfl ?_
            refine z_aload_n hC (pc := 13) 0 dX14_lines_13 rfl rfl ?_
            refine y_get hC (pc := 14) zf14 rOb_0 38 (v := iv (rF s12 0 38)) dX14_lines_14 zw2505 (rv_i (Or.inl rfl) rfl) (kk := ?_)
            have h := h (Ws12.f _ _)
            obtain ⟨hT, hF⟩ := h
            refine y_icmp_ge hC (pc := 17) 36 hy12_3 (Ws12.f _ _) dX14_lines_17 (by decide) (fun c => ?_) (fun c => ?_)
            · have h := hT c
              refine z_aload_n hC (pc := 36) 0 dX14_lines_36 rfl rfl ?_
              refine z_iload_n hC (pc := 37) 1 dX14_lines_37 rfl rfl ?_
              refine z_iload_n hC (pc := 38) 2 dX14_lines_38 rfl rfl ?_
              obtain ⟨g10, h⟩ := h
              obtain ⟨p11, h⟩ := h
              refine y_callVv hC (pc := 39) (As := [iv y12_2, iv y12_3]) (kX14_line_w l G κ s12 y12_2 y12_3 gg g10 nn Ws12 hy12_2 hy12_3 p11) dmX14_line zf14 rOb_0 dX14_lines_39 zw3291 rfl rfl (Nat.le_of_ble_eq_true rfl) (Nat.le_of_ble_eq_true rfl) (Nat.le_of_ble_eq_true rfl) (Nat.le_of_ble_eq_true rfl) (Nat.le_of_ble_eq_true rfl) (kk := fun s39 Ws39 qs39 => ?_)
              have h := h s39 Ws39 (qs39.1.R rfl) (qs39.1.F rfl) (qs39.1.F rfl) (fun i => qs39.1.A (f := 34) (by decide) rfl) (fun i => qs39.1.A (f := 35) (by decide) rfl) (fun i => qs39.1.A (f := 36) (by decide) rfl) (qs39.1.FG g0 rfl) (qs39.1.FG g0 rfl) (qs39.1.FG g0 rfl) qs39.2
              refine z_iload_n hC (pc := 42) 2 dX14_lines_42 rfl rfl ?_
              refine z_iconst hC (pc := 43) (v := Int32.ofInt 1) dX14_lines_43 (by decide) ?_
              refine y_iadd hC (pc := 44) (v := (y12_3 + 1)) dX14_lines_44 rfl ?_
              refine z_istore_n hC (pc := 45) (lv' := [(2, iv (y12_3 + 1)), (0, .ref (κ 0)), (3, iv y12_3)]) dX14_lines_45 rfl (by decide) rfl ?_
              refine z_goto hC (pc := 46) 2 dX14_lines_46 (by decide) ?_
              refine z_lvs [1, 0] rfl ?_
              obtain ⟨r12, h⟩ := h
              obtain ⟨hI, hm⟩ := h
              exact ih2 s39 (y12_3 + 1) Ws39 r12 (rKeep.tr (rKeep.tr rKeep.rf kJ rfl rfl rfl rfl rfl) qs39.1 rfl rfl rfl rfl rfl) hI (by omega)
            · have h := hF c
              refine z_aload_n hC (pc := 20) 0 dX14_lines_20 rfl rfl ?_
              refine y_get hC (pc := 21) zf14 rOb_0 34 (v := .ref (κ 1034)) dX14_lines_21 zw2501 (rv_c rfl) (kk := ?_)
              refine z_iload_n hC (pc := 24) 2 dX14_lines_24 rfl rfl ?_
              obtain ⟨b13, h⟩ := h
              refine y_iald hC (pc := 25) (rAr_m rfl) dX14_lines_25 b13 (v := (rA s12 1034 y12_3)) rfl (kk := ?_)
              have h := h (Ws12.a _ _)
              refine z_iconst hC (pc := 26) (v := Int32.ofInt 2) dX14_lines_26 (by decide) ?_
              obtain ⟨hT, hF⟩ := h
              refine y_icmp_eq hC (pc := 27) 36 (Ws12.a _ _) (r_lit rfl) dX14_lines_27 (by decide) (fun c => ?_) (fun c => ?_)
              · have h := hT c
                refine z_aload_n hC (pc := 36) 0 dX14_lines_36 rfl rfl ?_
                refine z_iload_n hC (pc := 37) 1 dX14_lines_37 rfl rfl ?_
                refine z_iload_n hC (pc := 38) 2 dX14_lines_38 rfl rfl ?_
                obtain ⟨g14, h⟩ := h
                obtain ⟨p15, h⟩ := h
                refine y_callVv hC (pc := 39) (As := [iv y12_2, iv y12_3]) (kX14_line_w l G κ s12 y12_2 y12_3 gg g14 nn Ws12 hy12_2 hy12_3 p15) dmX14_line zf14 rOb_0 dX14_lines_39 zw3291 rfl rfl (Nat.le_of_ble_eq_true rfl) (Nat.le_of_ble_eq_true rfl) (Nat.le_of_ble_eq_true rfl) (Nat.le_of_ble_eq_true rfl) (Nat.le_of_ble_eq_true rfl) (kk := fun s39 Ws39 qs39 => ?_)
                have h := h s39 Ws39 (qs39.1.R rfl) (qs39.1.F rfl) (qs39.1.F rfl) (fun i => qs39.1.A (f := 34) (by decide) rfl) (fun i => qs39.1.A (f := 35) (by decide) rfl) (fun i => qs39.1.A (f := 36) (by decide) rfl) (qs39.1.FG g0 rfl) (qs39.1.FG g0 rfl) (qs39.1.FG g0 rfl) qs39.2
                refine z_iload_n hC (pc := 42) 2 dX14_lines_42 rfl rfl ?_
                refine z_iconst hC (pc := 43) (v := Int32.ofInt 1) dX14_lines_43 (by decide) ?_
                refine y_iadd hC (pc := 44) (v := (y12_3 + 1)) dX14_lines_44 rfl ?_
                refine z_istore_n hC (pc := 45) (lv' := [(2, iv (y12_3 + 1)), (0, .ref (κ 0)), (3, iv y12_3)]) dX14_lines_45 rfl (by decide) rfl ?_
                refine z_goto hC (pc := 46) 2 dX14_lines_46 (by decide) ?_
                refine z_lvs [1, 0] rfl ?_
                obtain ⟨r16, h⟩ := h
                obtain ⟨hI, hm⟩ := h
                exact ih2 s39 (y12_3 + 1) Ws39 r16 (rKeep.tr (rKeep.tr rKeep.rf kJ rfl rfl rfl rfl rfl) qs39.1 rfl rfl rfl rfl rfl) hI (by omega)
              · have h := hF c
                refine y_iinc hC (pc := 30) (v := (y12_3 + 1)) (lv' := [(3, iv (y12_3 + 1)), (0, .ref (κ 0)), (2, iv y12_2)]) 2 dX14_lines_30 rfl rfl (by decide) rfl ?_
                refine z_goto hC (pc := 33) 12 dX14_lines_33 (by decide) ?_
                refine z_lvs [1, 2, 0] rfl ?_
                obtain ⟨r17, h⟩ := h
                obtain ⟨hI, hm⟩ := h
                exact ih12 s12 y12_2 (y12_3 + 1) Ws12 hy12_2 r17 (rKeep.tr rKeep.rf kJ rfl rfl rfl rfl rfl) hI (by omega)
        refine z_lvs [1, 2, 0] rfl ?_
        exact j12 _ s2 y2_2 y2_2 Ws2 hy2_2 hy2_2 (rKeep.tr rKeep.rf kJ rfl rfl rfl rfl rfl) h (Nat.le_refl _)
  refine z_lvs [1, 0] rfl ?_
  exact j2 _ σ x1 hwf hx1 rKeep.rf h (Nat.le_refl _)
theorem kX14_lines_w (l : Launch) (G : zG) (κ : Nat → Nat) (σ : rS) (x1 : Int) (gg : Nat) (g : Nat → Int → Int) (nn : Int) (hwf : rWF σ) (hx1 : rng x1) (hp : pre_X14_lines_w σ x1 gg g nn) : rMv l G κ yX14_lines cX14_lines 4 3 49 [.ref (κ 0), iv x1] σ (fun s => rKeep 0 0x200 0x2000000000 0x110 0 σ s ∧ post_X14_lines_w σ x1 gg g nn s) := wX14_lines_w l G κ σ x1 gg g nn hwf hx1 (post_X14_lines_w σ x1 gg g nn) (vX14_lines_w σ x1 gg g nn hwf hx1 hp) (vX14_lines_w_12 σ x1 gg g nn hwf hx1 hp) (vX14_lines_w_12m σ x1 gg g nn hwf hx1 hp) (vX14_lines_w_2 σ x1 gg g nn hwf hx1 hp) (vX14_lines_w_2m σ x1 gg g nn hwf hx1 hp)
