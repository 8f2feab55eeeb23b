theorem zw3389 : Cond.methodLink "TemplateHouseModel$Group" 150 ⟨"TemplateHouseModel$Group", "partAbove", "(III)I"⟩ ∈ zT := zsub15 29 (by decide +kernel) (by decide +kernel)
theorem zw3388 : Cond.methodLink "TemplateHouseModel$Group" 146 ⟨"TemplateHouseModel$Group", "partOf", "(II)I"⟩ ∈ zT := zsub15 28 (by decide +kernel) (by decide +kernel)
theorem zw3387 : Cond.constant "TemplateHouseModel$Group" 145 (100000 : Int32) ∈ zT := zsub15 27 (by decide +kernel) (by decide +kernel)
theorem zw3383 : Cond.methodLink "TemplateHouseModel$Group" 154 ⟨"TemplateHouseModel$Group", "part", "(III)I"⟩ ∈ zT := zsub15 23 (by decide +kernel) (by decide +kernel)
theorem zw3386 : Cond.code ⟨"TemplateHouseModel$Group", "part", "(III)I"⟩ prog_16_method_12_code 6 (Option.some Jvm.ClassFile.FieldType.int) ∈ zT := zsub15 26 rfl rfl
theorem zw3384 : Cond.instanceMethod ⟨"TemplateHouseModel$Group", "part", "(III)I"⟩ ∈ zT := zsub15 24 (by decide +kernel) (by decide +kernel)
theorem zw3385 : Cond.selects "TemplateHouseModel$Group" ⟨"TemplateHouseModel$Group", "part", "(III)I"⟩ ⟨"TemplateHouseModel$Group", "part", "(III)I"⟩ ∈ zT := zsub15 25 (by decide +kernel) (by decide +kernel)
theorem zw3382 : Cond.code ⟨"TemplateHouseModel$Group", "partAbove", "(III)I"⟩ prog_16_method_13_code 6 (Option.some Jvm.ClassFile.FieldType.int) ∈ zT := zsub15 22 rfl rfl
theorem zw3380 : Cond.instanceMethod ⟨"TemplateHouseModel$Group", "partAbove", "(III)I"⟩ ∈ zT := zsub15 20 (by decide +kernel) (by decide +kernel)
theorem zw3381 : Cond.selects "TemplateHouseModel$Group" ⟨"TemplateHouseModel$Group", "partAbove", "(III)I"⟩ ⟨"TemplateHouseModel$Group", "partAbove", "(III)I"⟩ ∈ zT := zsub15 21 (by decide +kernel) (by decide +kernel)
abbrev cX13_part : ByteArray := prog_16_method_12_code
abbrev yX13_part : MethodName := ⟨"TemplateHouseModel$Group", "part", "(III)I"⟩
theorem dmX13_part : zDv yX13_part cX13_part 6 (some .int) 3 := ⟨⟨⟨by decide +kernel, by decide +kernel, by decide +kernel⟩, zw3386, zw15⟩, zw3384, zw3385⟩
abbrev cX13_partAbove : ByteArray := prog_16_method_13_code
abbrev yX13_partAbove : MethodName := ⟨"TemplateHouseModel$Group", "partAbove", "(III)I"⟩
theorem dmX13_partAbove : zDv yX13_partAbove cX13_partAbove 6 (some .int) 3 := ⟨⟨⟨by decide +kernel, by decide +kernel, by decide +kernel⟩, zw3382, zw15⟩, zw3380, zw3381⟩
theorem dX13_part_0 : decode cX13_part 0 = .ok (.bipush 40, 2) := by decide +kernel
theorem dX13_part_2 : decode cX13_part 2 = .ok (.iload_n 1, 1) := by decide +kernel
theorem dX13_part_3 : decode cX13_part 3 = .ok (.imul, 1) := by decide +kernel
theorem dX13_part_4 : decode cX13_part 4 = .ok (.istore 4, 2) := by decide +kernel
theorem dX13_part_6 : decode cX13_part 6 = .ok (.iload 4, 2) := by decide +kernel
theorem dX13_part_8 : decode cX13_part 8 = .ok (.bipush 40, 2) := by decide +kernel
theorem dX13_part_10 : decode cX13_part 10 = .ok (.iload_n 1, 1) := by decide +kernel
theorem dX13_part_11 : decode cX13_part 11 = .ok (.imul, 1) := by decide +kernel
theorem dX13_part_12 : decode cX13_part 12 = .ok (.aload_n 0, 1) := by decide +kernel
theorem dX13_part_13 : decode cX13_part 13 = .ok (.getfield 72, 3) := by decide +kernel
theorem dX13_part_16 : decode cX13_part 16 = .ok (.iload_n 1, 1) := by decide +kernel
theorem dX13_part_17 : decode cX13_part 17 = .ok (.iaload, 1) := by decide +kernel
theorem dX13_part_18 : decode cX13_part 18 = .ok (.iadd, 1) := by decide +kernel
theorem dX13_part_19 : decode cX13_part 19 = .ok (.if_icmp .ge 48, 3) := by decide +kernel
theorem dX13_part_67 : decode cX13_part 67 = .ok (.aload_n 0, 1) := by decide +kernel
theorem dX13_part_68 : decode cX13_part 68 = .ok (.iload_n 1, 1) := by decide +kernel
theorem dX13_part_69 : decode cX13_part 69 = .ok (.iload_n 2, 1) := by decide +kernel
theorem dX13_part_70 : decode cX13_part 70 = .ok (.iconst 0, 1) := by decide +kernel
theorem dX13_part_71 : decode cX13_part 71 = .ok (.invokevirtual 135, 3) := by decide +kernel
theorem dX13_part_74 : decode cX13_part 74 = .ok (.istore 4, 2) := by decide +kernel
theorem dX13_part_76 : decode cX13_part 76 = .ok (.iload 4, 2) := by decide +kernel
theorem dX13_part_78 : decode cX13_part 78 = .ok (.ifCond .lt 23, 3) := by decide +kernel
theorem dX13_part_101 : decode cX13_part 101 = .ok (.iconst (-1), 1) := by decide +kernel
theorem dX13_part_102 : decode cX13_part 102 = .ok (.istore 5, 2) := by decide +kernel
theorem dX13_part_104 : decode cX13_part 104 = .ok (.iload 5, 2) := by decide +kernel
theorem dX13_part_106 : decode cX13_part 106 = .ok (.ifCond .lt 8, 3) := by decide +kernel
theorem dX13_part_114 : decode cX13_part 114 = .ok (.aload_n 0, 1) := by decide +kernel
theorem dX13_part_115 : decode cX13_part 115 = .ok (.iload_n 1, 1) := by decide +kernel
theorem dX13_part_116 : decode cX13_part 116 = .ok (.iload_n 2, 1) := by decide +kernel
theorem dX13_part_117 : decode cX13_part 117 = .ok (.iload_n 3, 1) := by decide +kernel
theorem dX13_part_118 : decode cX13_part 118 = .ok (.invokevirtual 150, 3) := by decide +kernel
theorem dX13_part_121 : decode cX13_part 121 = .ok (.ireturn, 1) := by decide +kernel
theorem dX13_part_81 : decode cX13_part 81 = .ok (.aload_n 0, 1) := by decide +kernel
theorem dX13_part_82 : decode cX13_part 82 = .ok (.getfield 45, 3) := by decide +kernel
theorem dX13_part_85 : decode cX13_part 85 = .ok (.iload 4, 2) := by decide +kernel
theorem dX13_part_87 : decode cX13_part 87 = .ok (.iaload, 1) := by decide +kernel
theorem dX13_part_88 : decode cX13_part 88 = .ok (.ifCond .ne 13, 3) := by decide +kernel
theorem dX13_part_91 : decode cX13_part 91 = .ok (.aload_n 0, 1) := by decide +kernel
theorem dX13_part_92 : decode cX13_part 92 = .ok (.iload 4, 2) := by decide +kernel
theorem dX13_part_94 : decode cX13_part 94 = .ok (.iload_n 3, 1) := by decide +kernel
theorem dX13_part_95 : decode cX13_part 95 = .ok (.invokevirtual 146, 3) := by decide +kernel
theorem dX13_part_98 : decode cX13_part 98 = .ok (.goto 4, 3) := by decide +kernel
theorem dX13_part_109 : decode cX13_part 109 = .ok (.iload 5, 2) := by decide +kernel
theorem dX13_part_111 : decode cX13_part 111 = .ok (.goto 10, 3) := by decide +kernel
theorem dX13_part_22 : decode cX13_part 22 = .ok (.aload_n 0, 1) := by decide +kernel
theorem dX13_part_23 : decode cX13_part 23 = .ok (.getfield 45, 3) := by decide +kernel
theorem dX13_part_26 : decode cX13_part 26 = .ok (.iload 4, 2) := by decide +kernel
theorem dX13_part_28 : decode cX13_part 28 = .ok (.iaload, 1) := by decide +kernel
theorem dX13_part_29 : decode cX13_part 29 = .ok (.iconst 1, 1) := by decide +kernel
theorem dX13_part_30 : decode cX13_part 30 = .ok (.if_icmp .ne 31, 3) := by decide +kernel
theorem dX13_part_61 : decode cX13_part 61 = .ok (.iinc 4 1, 3) := by decide +kernel
theorem dX13_part_64 : decode cX13_part 64 = .ok (.goto (-58), 3) := by decide +kernel
theorem dX13_part_33 : decode cX13_part 33 = .ok (.aload_n 0, 1) := by decide +kernel
theorem dX13_part_34 : decode cX13_part 34 = .ok (.getfield 48, 3) := by decide +kernel
theorem dX13_part_37 : decode cX13_part 37 = .ok (.iload 4, 2) := by decide +kernel
theorem dX13_part_39 : decode cX13_part 39 = .ok (.iaload, 1) := by decide +kernel
theorem dX13_part_40 : decode cX13_part 40 = .ok (.iload_n 2, 1) := by decide +kernel
theorem dX13_part_41 : decode cX13_part 41 = .ok (.if_icmp .ne 20, 3) := by decide +kernel
theorem dX13_part_44 : decode cX13_part 44 = .ok (.aload_n 0, 1) := by decide +kernel
theorem dX13_part_45 : decode cX13_part 45 = .ok (.getfield 51, 3) := by decide +kernel
theorem dX13_part_48 : decode cX13_part 48 = .ok (.iload 4, 2) := by decide +kernel
theorem dX13_part_50 : decode cX13_part 50 = .ok (.iaload, 1) := by decide +kernel
theorem dX13_part_51 : decode cX13_part 51 = .ok (.iload_n 3, 1) := by decide +kernel
theorem dX13_part_52 : decode cX13_part 52 = .ok (.if_icmp .ne 9, 3) := by decide +kernel
theorem dX13_part_55 : decode cX13_part 55 = .ok (.ldc 145, 2) := by decide +kernel
theorem dX13_part_57 : decode cX13_part 57 = .ok (.iload 4, 2) := by decide +kernel
theorem dX13_part_59 : decode cX13_part 59 = .ok (.iadd, 1) := by decide +kernel
theorem dX13_part_60 : decode cX13_part 60 = .ok (.ireturn, 1) := by decide +kernel
theorem dX13_partAbove_0 : decode cX13_partAbove 0 = .ok (.iconst (-1), 1) := by decide +kernel
theorem dX13_partAbove_1 : decode cX13_partAbove 1 = .ok (.istore 4, 2) := by decide +kernel
theorem dX13_partAbove_3 : decode cX13_partAbove 3 = .ok (.iconst 0, 1) := by decide +kernel
theorem dX13_partAbove_4 : decode cX13_partAbove 4 = .ok (.istore 5, 2) := by decide +kernel
theorem dX13_partAbove_6 : decode cX13_partAbove 6 = .ok (.iload 5, 2) := by decide +kernel
theorem dX13_partAbove_8 : decode cX13_partAbove 8 = .ok (.aload_n 0, 1) := by decide +kernel
theorem dX13_partAbove_9 : decode cX13_partAbove 9 = .ok (.getfield 78, 3) := by decide +kernel
theorem dX13_partAbove_12 : decode cX13_partAbove 12 = .ok (.iload_n 1, 1) := by decide +kernel
theorem dX13_partAbove_13 : decode cX13_partAbove 13 = .ok (.iaload, 1) := by decide +kernel
theorem dX13_partAbove_14 : decode cX13_partAbove 14 = .ok (.if_icmp .ge 35, 3) := by decide +kernel
theorem dX13_partAbove_49 : decode cX13_partAbove 49 = .ok (.iload 4, 2) := by decide +kernel
theorem dX13_partAbove_51 : decode cX13_partAbove 51 = .ok (.ireturn, 1) := by decide +kernel
theorem dX13_partAbove_17 : decode cX13_partAbove 17 = .ok (.iload 4, 2) := by decide +kernel
theorem dX13_partAbove_19 : decode cX13_partAbove 19 = .ok (.ifCond .ge 30, 3) := by decide +kernel
theorem dX13_partAbove_22 : decode cX13_partAbove 22 = .ok (.aload_n 0, 1) := by decide +kernel
theorem dX13_partAbove_23 : decode cX13_partAbove 23 = .ok (.aload_n 0, 1) := by decide +kernel
theorem dX13_partAbove_24 : decode cX13_partAbove 24 = .ok (.getfield 75, 3) := by decide +kernel
theorem dX13_partAbove_27 : decode cX13_partAbove 27 = .ok (.sipush 500, 3) := by decide +kernel
theorem dX13_partAbove_30 : decode cX13_partAbove 30 = .ok (.iload_n 1, 1) := by decide +kernel
theorem dX13_partAbove_31 : decode cX13_partAbove 31 = .ok (.imul, 1) := by decide +kernel
theorem dX13_partAbove_32 : decode cX13_partAbove 32 = .ok (.iload 5, 2) := by decide +kernel
theorem dX13_partAbove_34 : decode cX13_partAbove 34 = .ok (.iadd, 1) := by decide +kernel
theorem dX13_partAbove_35 : decode cX13_partAbove 35 = .ok (.iaload, 1) := by decide +kernel
theorem dX13_partAbove_36 : decode cX13_partAbove 36 = .ok (.iload_n 2, 1) := by decide +kernel
theorem dX13_partAbove_37 : decode cX13_partAbove 37 = .ok (.iload_n 3, 1) := by decide +kernel
theorem dX13_partAbove_38 : decode cX13_partAbove 38 = .ok (.invokevirtual 154, 3) := by decide +kernel
theorem dX13_partAbove_41 : decode cX13_partAbove 41 = .ok (.istore 4, 2) := by decide +kernel
theorem dX13_partAbove_43 : decode cX13_partAbove 43 = .ok (.iinc 5 1, 3) := by decide +kernel
theorem dX13_partAbove_46 : decode cX13_partAbove 46 = .ok (.goto (-40), 3) := by decide +kernel
def pre_X13_part (σ : rS) (k : Nat) (x1 : Int) (x2 : Int) (x3 : Int) (o : Int → Nat) : Prop := rIM σ k o ∧ 0 ≤ x1 ∧ x1 ≤ 7 ∧ (rF σ k 32) ≤ 5400 ∧ (∀ j, 0 ≤ j → j < (rF σ k 32) → 0 ≤ (rA σ (1000 * (k + 1) + 31) (j)) ∧ (rA σ (1000 * (k + 1) + 31) (j)) < 50000)
def post_X13_part (σ : rS) (k : Nat) (x1 : Int) (x2 : Int) (x3 : Int) (o : Int → Nat) (r : Int) : Prop := (r = -1 ∨ (0 ≤ r ∧ r < 50000) ∨ (100000 ≤ r ∧ r < 100320))
def rk_X13_part (σ : rS) (k : Nat) (x1 : Int) (x2 : Int) (x3 : Int) (o : Int → Nat) : Nat := 2 * o x1 + 3
def inv_X13_part_6 (σ : rS) (k : Nat) (x1 : Int) (x2 : Int) (x3 : Int) (o : Int → Nat)  (s : rS) (kk : Int) : Prop := 40 * x1 ≤ kk ∧ kk ≤ 40 * x1 + 40
def mu_X13_part_6 (σ : rS) (k : Nat) (x1 : Int) (x2 : Int) (x3 : Int) (o : Int → Nat) (s : rS) (kk : Int) : Nat := (1 + (40 * x1 + 40 - kk).toNat)
def pre_X13_partAbove (σ : rS) (k : Nat) (x1 : Int) (x2 : Int) (x3 : Int) (o : Int → Nat) : Prop := rIM σ k o ∧ 0 ≤ x1 ∧ x1 ≤ 7 ∧ (rF σ k 32) ≤ 5400 ∧ (∀ j, 0 ≤ j → j < (rF σ k 32) → 0 ≤ (rA σ (1000 * (k + 1) + 31) (j)) ∧ (rA σ (1000 * (k + 1) + 31) (j)) < 50000)
def post_X13_partAbove (σ : rS) (k : Nat) (x1 : Int) (x2 : Int) (x3 : Int) (o : Int → Nat) (r : Int) : Prop := (r = -1 ∨ (0 ≤ r ∧ r < 50000) ∨ (100000 ≤ r ∧ r < 100320))
def rk_X13_partAbove (σ : rS) (k : Nat) (x1 : Int) (x2 : Int) (x3 : Int) (o : Int → Nat) : Nat := 2 * o x1 + 2
def inv_X13_partAbove_6 (σ : rS) (k : Nat) (x1 : Int) (x2 : Int) (x3 : Int) (o : Int → Nat)  (s : rS) (it : Int) (kk : Int) : Prop := 0 ≤ kk ∧ kk ≤ 8 ∧ (it = -1 ∨ (0 ≤ it ∧ it < 50000) ∨ (100000 ≤ it ∧ it < 100320))
def mu_X13_partAbove_6 (σ : rS) (k : Nat) (x1 : Int) (x2 : Int) (x3 : Int) (o : Int → Nat) (s : rS) (it : Int) (kk : Int) : Nat := (1 + (8 - kk).toNat)
def VC_X13_part (n : Nat) (σ : rS) (k : Nat) (x1 : Int) (x2 : Int) (x3 : Int) (o : Int → Nat) (Q : Int → Prop) : Prop := rng (40 * x1) ∧ (inv_X13_part_6 σ k x1 x2 x3 o σ (40 * x1))
def VC_X13_part_6 (n : Nat) (σ : rS) (k : Nat) (x1 : Int) (x2 : Int) (x3 : Int) (o : Int → Nat) (Q : Int → Prop) : Prop := ∀ (y10 : Int), rng y10 → inv_X13_part_6 σ k x1 x2 x3 o σ y10 → ((0 ≤ x1 ∧ x1 < 8) ∧ (rng (rA σ (1000 * (k + 1) + 24) x1) → rng ((40 * x1) + (rA σ (1000 * (k + 1) + 24) x1)) ∧ ((((40 * x1) + (rA σ (1000 * (k + 1) + 24) x1)) ≤ y10 → pre_X13_own σ k x1 x2 0 ∧ (∀ (x15 : Int), rng x15 → post_X13_own σ k x1 x2 0 x15 → ((x15 < 0 → pre_X13_partAbove σ k x1 x2 x3 o ∧ rk_X13_partAbove σ k x1 x2 x3 o ≤ n ∧ (∀ (x19 : Int), rng x19 → post_X13_partAbove σ k x1 x2 x3 o x19 → Q x19)) ∧ (¬ x15 < 0 → (0 ≤ x15 ∧ x15 < 320) ∧ (rng (rA σ (1000 * (k + 1) + 15) x15) → ((¬ (rA σ (1000 * (k + 1) + 15) x15) = 0 → pre_X13_partAbove σ k x1 x2 x3 o ∧ rk_X13_partAbove σ k x1 x2 x3 o ≤ n ∧ (∀ (x24 : Int), rng x24 → post_X13_partAbove σ k x1 x2 x3 o x24 → Q x24)) ∧ ((rA σ (1000 * (k + 1) + 15) x15) = 0 → pre_X13_partOf σ k x15 x3 ∧ (∀ (x27 : Int), rng x27 → post_X13_partOf σ k x15 x3 x27 → ((x27 < 0 → pre_X13_partAbove σ k x1 x2 x3 o ∧ rk_X13_partAbove σ k x1 x2 x3 o ≤ n ∧ (∀ (x31 : Int), rng x31 → post_X13_partAbove σ k x1 x2 x3 o x31 → Q x31)) ∧ (¬ x27 < 0 → Q x27)))))))))) ∧ (¬ ((40 * x1) + (rA σ (1000 * (k + 1) + 24) x1)) ≤ y10 → (0 ≤ y10 ∧ y10 < 320) ∧ (rng (rA σ (1000 * (k + 1) + 15) y10) → ((¬ (rA σ (1000 * (k + 1) + 15) y10) = 1 → rng (y10 + 1) ∧ (inv_X13_part_6 σ k x1 x2 x3 o σ (y10 + 1) ∧ (mu_X13_part_6 σ k x1 x2 x3 o σ (y10 + 1)) < (mu_X13_part_6 σ k x1 x2 x3 o σ y10))) ∧ ((rA σ (1000 * (k + 1) + 15) y10) = 1 → (0 ≤ y10 ∧ y10 < 320) ∧ (rng (rA σ (1000 * (k + 1) + 16) y10) → ((¬ (rA σ (1000 * (k + 1) + 16) y10) = x2 → rng (y10 + 1) ∧ (inv_X13_part_6 σ k x1 x2 x3 o σ (y10 + 1) ∧ (mu_X13_part_6 σ k x1 x2 x3 o σ (y10 + 1)) < (mu_X13_part_6 σ k x1 x2 x3 o σ y10))) ∧ ((rA σ (1000 * (k + 1) + 16) y10) = x2 → (0 ≤ y10 ∧ y10 < 320) ∧ (rng (rA σ (1000 * (k + 1) + 17) y10) → ((¬ (rA σ (1000 * (k + 1) + 17) y10) = x3 → rng (y10 + 1) ∧ (inv_X13_part_6 σ k x1 x2 x3 o σ (y10 + 1) ∧ (mu_X13_part_6 σ k x1 x2 x3 o σ (y10 + 1)) < (mu_X13_part_6 σ k x1 x2 x3 o σ y10))) ∧ ((rA σ (1000 * (k + 1) + 17) y10) = x3 → rng (100000 + y10) ∧ Q (100000 + y10))))))))))))))
def VC_X13_part_6m (n : Nat) (σ : rS) (k : Nat) (x1 : Int) (x2 : Int) (x3 : Int) (o : Int → Nat) : Prop := ∀ (y10 : Int), rng y10 → inv_X13_part_6 σ k x1 x2 x3 o σ y10 → 0 < (mu_X13_part_6 σ k x1 x2 x3 o σ y10)
def VC_X13_partAbove (n : Nat) (σ : rS) (k : Nat) (x1 : Int) (x2 : Int) (x3 : Int) (o : Int → Nat) (Q : Int → Prop) : Prop := (inv_X13_partAbove_6 σ k x1 x2 x3 o σ (-1) 0)
def VC_X13_partAbove_6 (n : Nat) (σ : rS) (k : Nat) (x1 : Int) (x2 : Int) (x3 : Int) (o : Int → Nat) (Q : Int → Prop) : Prop := ∀ (y10 : Int) (y11 : Int), rng y10 → rng y11 → inv_X13_partAbove_6 σ k x1 x2 x3 o σ y10 y11 → ((0 ≤ x1 ∧ x1 < 8) ∧ (rng (rA σ (1000 * (k + 1) + 26) x1) → (((rA σ (1000 * (k + 1) + 26) x1) ≤ y11 → Q y10) ∧ (¬ (rA σ (1000 * (k + 1) + 26) x1) ≤ y11 → ((0 ≤ y10 → Q y10) ∧ (¬ 0 ≤ y10 → (0 ≤ ((500 * x1) + y11) ∧ ((500 * x1) + y11) < 4000) ∧ (rng (rA σ (1000 * (k + 1) + 25) ((500 * x1) + y11)) → pre_X13_part σ k (rA σ (1000 * (k + 1) + 25) ((500 * x1) + y11)) x2 x3 o ∧ rk_X13_part σ k (rA σ (1000 * (k + 1) + 25) ((500 * x1) + y11)) x2 x3 o ≤ n ∧ (∀ (x17 : Int), rng x17 → post_X13_part σ k (rA σ (1000 * (k + 1) + 25) ((500 * x1) + y11)) x2 x3 o x17 → rng (y11 + 1) ∧ (inv_X13_partAbove_6 σ k x1 x2 x3 o σ x17 (y11 + 1) ∧ (mu_X13_partAbove_6 σ k x1 x2 x3 o σ x17 (y11 + 1)) < (mu_X13_partAbove_6 σ k x1 x2 x3 o σ y10 y11))))))))))
def VC_X13_partAbove_6m (n : Nat) (σ : rS) (k : Nat) (x1 : Int) (x2 : Int) (x3 : Int) (o : Int → Nat) : Prop := ∀ (y10 : Int) (y11 : Int), rng y10 → rng y11 → inv_X13_partAbove_6 σ k x1 x2 x3 o σ y10 y11 → 0 < (mu_X13_partAbove_6 σ k x1 x2 x3 o σ y10 y11)
set_option maxHeartbeats 400000 in
theorem vX13_part (n : Nat) (σ : rS) (k : Nat) (x1 : Int) (x2 : Int) (x3 : Int) (o : Int → Nat) (hwf : rWF σ) (hk : rgk k) (hx1 : rng x1) (hx2 : rng x2) (hx3 : rng x3) (hp : pre_X13_part σ k x1 x2 x3 o) (hr : rk_X13_part σ k x1 x2 x3 o ≤ n + 1) : VC_X13_part n σ k x1 x2 x3 o (post_X13_part σ k x1 x2 x3 o) := by
  simp only [VC_X13_part, pre_X13_part, post_X13_part, inv_X13_part_6, mu_X13_part_6, pre_X13_own, pre_X13_partOf, pre_X13_partAbove, post_X13_own, post_X13_partOf, post_X13_partAbove, rIM, rk_X13_part, rk_X13_partAbove, rng, rfk, rNMp, rF_sF, rF_sA, rF_sL, rF_sR, rA_sA, rA_sF, rA_sL, rA_sR, rR_sF, rR_sA, rR_sL, rR_sR, reduceIte, and_true, true_and, and_false, false_and, and_self] at *
  (repeat' (first | with_reducible intro _ | with_reducible apply And.intro))
  all_goals (first | assumption | omega | grind (splits := 20) [rNM_sF0])
set_option maxHeartbeats 400000 in
theorem vX13_part_6 (n : Nat) (σ : rS) (k : Nat) (x1 : Int) (x2 : Int) (x3 : Int) (o : Int → Nat) (hwf : rWF σ) (hk : rgk k) (hx1 : rng x1) (hx2 : rng x2) (hx3 : rng x3) (hp : pre_X13_part σ k x1 x2 x3 o) (hr : rk_X13_part σ k x1 x2 x3 o ≤ n + 1) : VC_X13_part_6 n σ k x1 x2 x3 o (post_X13_part σ k x1 x2 x3 o) := by
  simp only [VC_X13_part_6, pre_X13_part, post_X13_part, inv_X13_part_6, mu_X13_part_6, pre_X13_own, pre_X13_partOf, pre_X13_partAbove, post_X13_own, post_X13_partOf, post_X13_partAbove, rIM, rk_X13_part, rk_X13_partAbove, rng, rfk, rNMp, rF_sF, rF_sA, rF_sL, rF_sR, rA_sA, rA_sF, rA_sL, rA_sR, rR_sF, rR_sA, rR_sL, rR_sR, reduceIte, and_true, true_and, and_false, false_and, and_self] at *
  (repeat' (first | with_reducible intro _ | with_reducible apply And.intro))
  all_goals (first | assumption | omega | grind (splits := 20) [rNM_sF0])
set_option maxHeartbeats 400000 in
theorem vX13_part_6m (n : Nat) (σ : rS) (k : Nat) (x1 : Int) (x2 : Int) (x3 : Int) (o : Int → Nat) (hwf : rWF σ) (hk : rgk k) (hx1 : rng x1) (hx2 : rng x2) (hx3 : rng x3) (hp : pre_X13_part σ k x1 x2 x3 o) (hr : rk_X13_part σ k x1 x2 x3 o ≤ n + 1) : VC_X13_part_6m n σ k x1 x2 x3 o := by
  simp only [VC_X13_part_6m, pre_X13_part, post_X13_part, inv_X13_part_6, mu_X13_part_6, pre_X13_own, pre_X13_partOf, pre_X13_partAbove, post_X13_own, post_X13_partOf, post_X13_partAbove, rIM, rk_X13_part, rk_X13_partAbove, rng, rfk, rNMp, rF_sF, rF_sA, rF_sL, rF_sR, rA_sA, rA_sF, rA_sL, rA_sR, rR_sF, rR_sA, rR_sL, rR_sR, reduceIte, and_true, true_and, and_false, false_and, and_self] at *
  (repeat' (first | with_reducible intro _ | with_reducible apply And.intro))
  all_goals (first | assumption | omega | grind (splits := 20) [rNM_sF0])
set_option maxHeartbeats 400000 in
theorem vX13_partAbove (n : Nat) (σ : rS) (k : Nat) (x1 : Int) (x2 : Int) (x3 : Int) (o : Int → Nat) (hwf : rWF σ) (hk : rgk k) (hx1 : rng x1) (hx2 : rng x2) (hx3 : rng x3) (hp : pre_X13_partAbove σ k x1 x2 x3 o) (hr : rk_X13_partAbove σ k x1 x2 x3 o ≤ n + 1) : VC_X13_partAbove n σ k x1 x2 x3 o (post_X13_partAbove σ k x1 x2 x3 o) := by
  simp only [VC_X13_partAbove, pre_X13_partAbove, post_X13_partAbove, inv_X13_partAbove_6, mu_X13_partAbove_6, pre_X13_part, post_X13_part, rIM, rk_X13_partAbove, rk_X13_part, rng, rfk, rNMp, rF_sF, rF_sA, rF_sL, rF_sR, rA_sA, rA_sF, rA_sL, rA_sR, rR_sF, rR_sA, rR_sL, rR_sR, reduceIte, and_true, true_and, and_false, false_and, and_self] at *
  (repeat' (first | with_reducible intro _ | with_reducible apply And.intro))
  all_goals (first | assumption | omega | grind (splits := 20) [rNM_sF0])
set_option maxHeartbeats 400000 in
theorem vX13_partAbove_6 (n : Nat) (σ : rS) (k : Nat) (x1 : Int) (x2 : Int) (x3 : Int) (o : Int → Nat) (hwf : rWF σ) (hk : rgk k) (hx1 : rng x1) (hx2 : rng x2) (hx3 : rng x3) (hp : pre_X13_partAbove σ k x1 x2 x3 o) (hr : rk_X13_partAbove σ k x1 x2 x3 o ≤ n + 1) : VC_X13_partAbove_6 n σ k x1 x2 x3 o (post_X13_partAbove σ k x1 x2 x3 o) := by
  simp only [VC_X13_partAbove_6, pre_X13_partAbove, post_X13_partAbove, inv_X13_partAbove_6, mu_X13_partAbove_6, pre_X13_part, post_X13_part, rIM, rk_X13_partAbove, rk_X13_part, rng, rfk, rNMp, rF_sF, rF_sA, rF_sL, rF_sR, rA_sA, rA_sF, rA_sL, rA_sR, rR_sF, rR_sA, rR_sL, rR_sR, reduceIte, and_true, true_and, and_false, false_and, and_self] at *
  (repeat' (first | with_reducible intro _ | with_reducible apply And.intro))
  all_goals (first | assumption | omega | grind (splits := 20) [rNM_sF0])
set_option maxHeartbeats 400000 in
theorem vX13_partAbove_6m (n : Nat) (σ : rS) (k : Nat) (x1 : Int) (x2 : Int) (x3 : Int) (o : Int → Nat) (hwf : rWF σ) (hk : rgk k) (hx1 : rng x1) (hx2 : rng x2) (hx3 : rng x3) (hp : pre_X13_partAbove σ k x1 x2 x3 o) (hr : rk_X13_partAbove σ k x1 x2 x3 o ≤ n + 1) : VC_X13_partAbove_6m n σ k x1 x2 x3 o := by
  simp only [VC_X13_partAbove_6m, pre_X13_partAbove, post_X13_partAbove, inv_X13_partAbove_6, mu_X13_partAbove_6, pre_X13_part, post_X13_part, rIM, rk_X13_partAbove, rk_X13_part, rng, rfk, rNMp, rF_sF, rF_sA, rF_sL, rF_sR, rA_sA, rA_sF, rA_sL, rA_sR, rR_sF, rR_sA, rR_sL, rR_sR, reduceIte, and_true, true_and, and_false, false_and, and_self] at *
  (repeat' (first | with_reducible intro _ | with_reducible apply And.intro))
  all_goals (first | assumption | omega | grind (splits := 20) [rNM_sF0])
def Q_part (l : Launch) (G : zG) (κ : Nat → Nat) (n : Nat) : Prop := (∀ (σ : rS) (k : Nat) (x1 : Int) (x2 : Int) (x3 : Int) (o : Int → Nat), rWF σ → rgk k → rng x1 → rng x2 → rng x3 → pre_X13_part σ k x1 x2 x3 o → rk_X13_part σ k x1 x2 x3 o ≤ n → rMi l G κ yX13_part cX13_part 6 .int (n + 20) (n * 40 + 600) [.ref (κ k), iv x1, iv x2, iv x3] σ (fun x s => s = σ ∧ post_X13_part σ k x1 x2 x3 o x)) ∧ (∀ (σ : rS) (k : Nat) (x1 : Int) (x2 : Int) (x3 : Int) (o : Int → Nat), rWF σ → rgk k → rng x1 → rng x2 → rng x3 → pre_X13_partAbove σ k x1 x2 x3 o → rk_X13_partAbove σ k x1 x2 x3 o ≤ n → rMi l G κ yX13_partAbove cX13_partAbove 6 .int (n + 20) (n * 40 + 600) [.ref (κ k), iv x1, iv x2, iv x3] σ (fun x s => s = σ ∧ post_X13_partAbove σ k x1 x2 x3 o x))
theorem qX13_part {l : Launch} {G : zG} {κ : Nat → Nat} {n : Nat} (h : Q_part l G κ n) : (∀ (σ : rS) (k : Nat) (x1 : Int) (x2 : Int) (x3 : Int) (o : Int → Nat), rWF σ → rgk k → rng x1 → rng x2 → rng x3 → pre_X13_part σ k x1 x2 x3 o → rk_X13_part σ k x1 x2 x3 o ≤ n → rMi l G κ yX13_part cX13_part 6 .int (n + 20) (n * 40 + 600) [.ref (κ k), iv x1, iv x2, iv x3] σ (fun x s => s = σ ∧ post_X13_part σ k x1 x2 x3 o x)) := h.1
theorem qX13_partAbove {l : Launch} {G : zG} {κ : Nat → Nat} {n : Nat} (h : Q_part l G κ n) : (∀ (σ : rS) (k : Nat) (x1 : Int) (x2 : Int) (x3 : Int) (o : Int → Nat), rWF σ → rgk k → rng x1 → rng x2 → rng x3 → pre_X13_partAbove σ k x1 x2 x3 o → rk_X13_partAbove σ k x1 x2 x3 o ≤ n → rMi l G κ yX13_partAbove cX13_partAbove 6 .int (n + 20) (n * 40 + 600) [.ref (κ k), iv x1, iv x2, iv x3] σ (fun x s => s = σ ∧ post_X13_partAbove σ k x1 x2 x3 o x)) := h.2
theorem wX13_part (l : Launch) (G : zG) (κ : Nat → Nat) (n : Nat) (ih : Q_part l G κ n) (σ : rS) (k : Nat) (x1 : Int) (x2 : Int) (x3 : Int) (o : Int → Nat) (hwf : rWF σ) (hk : rgk k) (hx1 : rng x1) (hx2 : rng x2) (hx3 : rng x3) (Q : Int → Prop) (h : VC_X13_part n σ k x1 x2 x3 o Q) (h_6 : VC_X13_part_6 n σ k x1 x2 x3 o Q) (h_6m : VC_X13_part_6m n σ k x1 x2 x3 o) : rMi l G κ yX13_part cX13_part 6 .int (n + 1 + 20) ((n + 1) * 40 + 600) [.ref (κ k), iv x1, iv x2, iv x3] σ (fun x s => s = σ ∧ Q x) := by
  refine zMi.intro (by decide +kernel) (Nat.le_of_ble_eq_true rfl) (fun X hC hR => ?_)
  refine z_bipush hC (pc := 0) (v := Int32.ofInt 40) dX13_part_0 (by decide) ?_
  refine z_iload_n hC (pc := 2) 1 dX13_part_2 rfl rfl ?_
  refine y_imul hC (pc := 3) (v := (40 * x1)) dX13_part_3 rfl ?_
  refine z_istore hC (pc := 4) (lv' := [(4, iv (40 * x1)), (0, .ref (κ k)), (1, iv x1), (2, iv x2), (3, iv x3)]) dX13_part_4 (by decide) rfl ?_
  have j6 : ∀ (d6 : Nat), ∀ (y10 : Int), rng y10 → inv_X13_part_6 σ k x1 x2 x3 o σ y10 → (mu_X13_part_6 σ k x1 x2 x3 o σ y10) ≤ d6 → zS X G 6 (rW G κ σ) [(0, .ref (κ k)), (1, iv x1), (2, iv x2), (3, iv x3), (4, iv y10)] 0 0 6 [] := by
    intro d6
    induction d6 with
    | zero =>
      intro y10 hy10 hI hmu
      exact absurd hmu (by have := h_6m   y10  hy10  hI; omega)
    | succ d6 ih6 =>
      intro y10 hy10 hI hmu6
      have h := h_6   y10  hy10  hI
      refine z_iload hC (pc := 6) 4 dX13_part_6 rfl ?_
      refine z_bipush hC (pc := 8) (v := Int32.ofInt 40) dX13_part_8 (by decide) ?_
      refine z_iload_n hC (pc := 10) 1 dX13_part_10 rfl rfl ?_
      refine y_imul hC (pc := 11) (v := (40 * x1)) dX13_part_11 rfl ?_
      refine z_aload_n hC (pc := 12) 0 dX13_part_12 rfl rfl ?_
      refine y_get hC (pc := 13) zf13 (rOb_k hk) 24 (v := .ref (κ (1000 * (k + 1) + 24))) dX13_part_13 zw2355 (rv_c rfl) (kk := ?_)
      refine z_iload_n hC (pc := 16) 1 dX13_part_16 rfl rfl ?_
      obtain ⟨b11, h⟩ := h
      refine y_iald hC (pc := 17) (rAr_k hk rfl rfl) dX13_part_17 b11 (v := (rA σ (1000 * (k + 1) + 24) x1)) rfl (kk := ?_)
      have h := h (hwf.a _ _)
      refine y_iadd hC (pc := 18) (v := ((40 * x1) + (rA σ (1000 * (k + 1) + 24) x1))) dX13_part_18 rfl ?_
      obtain ⟨r12, h⟩ := h
      obtain ⟨hT, hF⟩ := h
      refine y_icmp_ge hC (pc := 19) 67 hy10 r12 dX13_part_19 (by decide) (fun c => ?_) (fun c => ?_)
      · have h := hT c
        refine z_aload_n hC (pc := 67) 0 dX13_part_67 rfl rfl ?_
        refine z_iload_n hC (pc := 68) 1 dX13_part_68 rfl rfl ?_
        refine z_iload_n hC (pc := 69) 2 dX13_part_69 rfl rfl ?_
        refine z_iconst hC (pc := 70) (v := Int32.ofInt 0) dX13_part_70 (by decide) ?_
        obtain ⟨p13, h⟩ := h
        refine y_callVi hC (pc := 71) (As := [iv x1, iv x2, iv 0]) (kX13_own l G κ σ k x1 x2 0 hwf hk hx1 hx2 (r_lit rfl) p13) dmX13_own zf13 (rOb_k hk) dX13_part_71 zw3315 rfl rfl (Nat.le_of_ble_eq_true rfl) (Nat.le_of_ble_eq_true rfl) (by omega) (by omega) (Nat.le_of_ble_eq_true rfl) (kk := fun x15 s14 hx15 Ws14 qs14 => ?_)
        obtain ⟨es14, qs14⟩ := qs14
        have es14 := es14.symm
        subst es14
        have h := h x15 hx15 qs14
        refine z_istore hC (pc := 74) (lv' := [(4, iv x15), (0, .ref (κ k)), (1, iv x1), (2, iv x2), (3, iv x3)]) dX13_part_74 (by decide) rfl ?_
        refine z_iload hC (pc := 76) 0 dX13_part_76 rfl ?_
        obtain ⟨hT, hF⟩ := h
        refine y_if_lt hC (pc := 78) 101 hx15 dX13_part_78 (by decide) (fun c => ?_) (fun c => ?_)
        · have h := hT c
          refine z_iconst hC (pc := 101) (v := Int32.ofInt (-1)) dX13_part_101 (by decide) ?_
          refine z_istore hC (pc := 102) (lv' := [(5, iv (-1)), (4, iv x15), (0, .ref (κ k)), (1, iv x1), (2, iv x2), (3, iv x3)]) dX13_part_102 (by decide) rfl ?_
          refine z_iload hC (pc := 104) 0 dX13_part_104 rfl ?_
          refine y_if_lt hC (pc := 106) 114 (r_lit rfl) dX13_part_106 (by decide) (fun _ => ?_) (fun c => absurd c (by decide))
          refine z_aload_n hC (pc := 114) 2 dX13_part_114 rfl rfl ?_
          refine z_iload_n hC (pc := 115) 3 dX13_part_115 rfl rfl ?_
          refine z_iload_n hC (pc := 116) 4 dX13_part_116 rfl rfl ?_
          refine z_iload_n hC (pc := 117) 5 dX13_part_117 rfl rfl ?_
          obtain ⟨p16, h⟩ := h
          obtain ⟨p17, h⟩ := h
          refine y_callVi hC (pc := 118) (As := [iv x1, iv x2, iv x3]) (qX13_partAbove ih σ k x1 x2 x3 o hwf hk hx1 hx2 hx3 p16 p17) dmX13_partAbove zf13 (rOb_k hk) dX13_part_118 zw3389 rfl rfl (Nat.le_of_ble_eq_true rfl) (Nat.le_of_ble_eq_true rfl) (by omega) (by omega) (Nat.le_of_ble_eq_true rfl) (kk := fun x19 s18 hx19 Ws18 qs18 => ?_)
          obtain ⟨es18, qs18⟩ := qs18
          have es18 := es18.symm
          subst es18
          have h := h x19 hx19 qs18
          exact y_reti hR dX13_part_121 rfl hx19 hwf (Nat.le_of_ble_eq_true rfl) (Nat.le_of_ble_eq_true rfl) ⟨rfl, h⟩
        · have h := hF c
          refine z_aload_n hC (pc := 81) 1 dX13_part_81 rfl rfl ?_
          refine y_get hC (pc := 82) zf13 (rOb_k hk) 15 (v := .ref (κ (1000 * (k + 1) + 15))) dX13_part_82 zw2337 (rv_c rfl) (kk := ?_)
          refine z_iload hC (pc := 85) 0 dX13_part_85 rfl ?_
          obtain ⟨b20, h⟩ := h
          refine y_iald hC (pc := 87) (rAr_k hk rfl rfl) dX13_part_87 b20 (v := (rA σ (1000 * (k + 1) + 15) x15)) rfl (kk := ?_)
          have h := h (hwf.a _ _)
          obtain ⟨hT, hF⟩ := h
          refine y_if_ne hC (pc := 88) 101 (hwf.a _ _) dX13_part_88 (by decide) (fun c => ?_) (fun c => ?_)
          · have h := hT c
            refine z_iconst hC (pc := 101) (v := Int32.ofInt (-1)) dX13_part_101 (by decide) ?_
            refine z_istore hC (pc := 102) (lv' := [(5, iv (-1)), (4, iv x15), (0, .ref (κ k)), (1, iv x1), (2, iv x2), (3, iv x3)]) dX13_part_102 (by decide) rfl ?_
            refine z_iload hC (pc := 104) 0 dX13_part_104 rfl ?_
            refine y_if_lt hC (pc := 106) 114 (r_lit rfl) dX13_part_106 (by decide) (fun _ => ?_) (fun c => absurd c (by decide))
            refine z_aload_n hC (pc := 114) 2 dX13_part_114 rfl rfl ?_
            refine z_iload_n hC (pc := 115) 3 dX13_part_115 rfl rfl ?_
            refine z_iload_n hC (pc := 116) 4 dX13_part_116 rfl rfl ?_
            refine z_iload_n hC (pc := 117) 5 dX13_part_117 rfl rfl ?_
            obtain ⟨p21, h⟩ := h
            obtain ⟨p22, h⟩ := h
            refine y_callVi hC (pc := 118) (As := [iv x1, iv x2, iv x3]) (qX13_partAbove ih σ k x1 x2 x3 o hwf hk hx1 hx2 hx3 p21 p22) dmX13_partAbove zf13 (rOb_k hk) dX13_part_118 zw3389 rfl rfl (Nat.le_of_ble_eq_true rfl) (Nat.le_of_ble_eq_true rfl) (by omega) (by omega) (Nat.le_of_ble_eq_true rfl) (kk := fun x24 s23 hx24 Ws23 qs23 => ?_)
            obtain ⟨es23, qs23⟩ := qs23
            have es23 := es23.symm
            subst es23
            have h := h x24 hx24 qs23
            exact y_reti hR dX13_part_121 rfl hx24 hwf (Nat.le_of_ble_eq_true rfl) (Nat.le_of_ble_eq_true rfl) ⟨rfl, h⟩
          · have h := hF c
            refine z_aload_n hC (pc := 91) 1 dX13_part_91 rfl rfl ?_
            refine z_iload hC (pc := 92) 0 dX13_part_92 rfl ?_
            refine z_iload_n hC (pc := 94) 4 dX13_part_94 rfl rfl ?_
            obtain ⟨p25, h⟩ := h
            refine y_callVi hC (pc := 95) (As := [iv x15, iv x3]) (kX13_partOf l G κ σ k x15 x3 hwf hk hx15 hx3 p25) dmX13_partOf zf13 (rOb_k hk) dX13_part_95 zw3388 rfl rfl (Nat.le_of_ble_eq_true rfl) (Nat.le_of_ble_eq_true rfl) (by omega) (by omega) (Nat.le_of_ble_eq_true rfl) (kk := fun x27 s26 hx27 Ws26 qs26 => ?_)
            obtain ⟨es26, qs26⟩ := qs26
            have es26 := es26.symm
            subst es26
            have h := h x27 hx27 qs26
            refine z_goto hC (pc := 98) 102 dX13_part_98 (by decide) ?_
            refine z_istore hC (pc := 102) (lv' := [(5, iv x27), (4, iv x15), (0, .ref (κ k)), (1, iv x1), (2, iv x2), (3, iv x3)]) dX13_part_102 (by decide) rfl ?_
            refine z_iload hC (pc := 104) 0 dX13_part_104 rfl ?_
            obtain ⟨hT, hF⟩ := h
            refine y_if_lt hC (pc := 106) 114 hx27 dX13_part_106 (by decide) (fun c => ?_) (fun c => ?_)
            · have h := hT c
              refine z_aload_n hC (pc := 114) 2 dX13_part_114 rfl rfl ?_
              refine z_iload_n hC (pc := 115) 3 dX13_part_115 rfl rfl ?_
              refine z_iload_n hC (pc := 116) 4 dX13_part_116 rfl rfl ?_
              refine z_iload_n hC (pc := 117) 5 dX13_part_117 rfl rfl ?_
              obtain ⟨p28, h⟩ := h
              obtain ⟨p29, h⟩ := h
              refine y_callVi hC (pc := 118) (As := [iv x1, iv x2, iv x3]) (qX13_partAbove ih σ k x1 x2 x3 o hwf hk hx1 hx2 hx3 p28 p29) dmX13_partAbove zf13 (rOb_k hk) dX13_part_118 zw3389 rfl rfl (Nat.le_of_ble_eq_true rfl) (Nat.le_of_ble_eq_true rfl) (by omega) (by omega) (Nat.le_of_ble_eq_true rfl) (kk := fun x31 s30 hx31 Ws30 qs30 => ?_)
              obtain ⟨es30, qs30⟩ := qs30
              have es30 := es30.symm
              subst es30
              have h := h x31 hx31 qs30
              exact y_reti hR dX13_part_121 rfl hx31 hwf (Nat.le_of_ble_eq_true rfl) (Nat.le_of_ble_eq_true rfl) ⟨rfl, h⟩
            · have h := hF c
              refine z_iload hC (pc := 109) 0 dX13_part_109 rfl ?_
              refine z_goto hC (pc := 111) 121 dX13_part_111 (by decide) ?_
              exact y_reti hR dX13_part_121 rfl hx27 hwf (Nat.le_of_ble_eq_true rfl) (Nat.le_of_ble_eq_true rfl) ⟨rfl, h⟩
      · have h := hF c
        refine z_aload_n hC (pc := 22) 0 dX13_part_22 rfl rfl ?_
        refine y_get hC (pc := 23) zf13 (rOb_k hk) 15 (v := .ref (κ (1000 * (k + 1) + 15))) dX13_part_23 zw2337 (rv_c rfl) (kk := ?_)
        refine z_iload hC (pc := 26) 4 dX13_part_26 rfl ?_
        obtain ⟨b32, h⟩ := h
        refine y_iald hC (pc := 28) (rAr_k hk rfl rfl) dX13_part_28 b32 (v := (rA σ (1000 * (k + 1) + 15) y10)) rfl (kk := ?_)
        have h := h (hwf.a _ _)
        refine z_iconst hC (pc := 29) (v := Int32.ofInt 1) dX13_part_29 (by decide) ?_
        obtain ⟨hT, hF⟩ := h
        refine y_icmp_ne hC (pc := 30) 61 (hwf.a _ _) (r_lit rfl) dX13_part_30 (by decide) (fun c => ?_) (fun c => ?_)
        · have h := hT c
          refine y_iinc hC (pc := 61) (v := (y10 + 1)) (lv' := [(4, iv (y10 + 1)), (0, .ref (κ k)), (1, iv x1), (2, iv x2), (3, iv x3)]) 4 dX13_part_61 rfl rfl (by decide) rfl ?_
          refine z_goto hC (pc := 64) 6 dX13_part_64 (by decide) ?_
          refine z_lvs [1, 2, 3, 4, 0] rfl ?_
          obtain ⟨r33, h⟩ := h
          obtain ⟨hI, hm⟩ := h
          exact ih6  (y10 + 1)  r33  hI (by omega)
        · have h := hF c
          refine z_aload_n hC (pc := 33) 0 dX13_part_33 rfl rfl ?_
          refine y_get hC (pc := 34) zf13 (rOb_k hk) 16 (v := .ref (κ (1000 * (k + 1) + 16))) dX13_part_34 zw2339 (rv_c rfl) (kk := ?_)
          refine z_iload hC (pc := 37) 4 dX13_part_37 rfl ?_
          obtain ⟨b34, h⟩ := h
          refine y_iald hC (pc := 39) (rAr_k hk rfl rfl) dX13_part_39 b34 (v := (rA σ (1000 * (k + 1) + 16) y10)) rfl (kk := ?_)
          have h := h (hwf.a _ _)
          refine z_iload_n hC (pc := 40) 2 dX13_part_40 rfl rfl ?_
          obtain ⟨hT, hF⟩ := h
          refine y_icmp_ne hC (pc := 41) 61 (hwf.a _ _) hx2 dX13_part_41 (by decide) (fun c => ?_) (fun c => ?_)
          · have h := hT c
            refine y_iinc hC (pc := 61) (v := (y10 + 1)) (lv' := [(4, iv (y10 + 1)), (0, .ref (κ k)), (1, iv x1), (2, iv x2), (3, iv x3)]) 4 dX13_part_61 rfl rfl (by decide) rfl ?_
            refine z_goto hC (pc := 64) 6 dX13_part_64 (by decide) ?_
            refine z_lvs [1, 2, 3, 4, 0] rfl ?_
            obtain ⟨r35, h⟩ := h
            obtain ⟨hI, hm⟩ := h
            exact ih6  (y10 + 1)  r35  hI (by omega)
          · have h := hF c
            refine z_aload_n hC (pc := 44) 0 dX13_part_44 rfl rfl ?_
            refine y_get hC (pc := 45) zf13 (rOb_k hk) 17 (v := .ref (κ (1000 * (k + 1) + 17))) dX13_part_45 zw2341 (rv_c rfl) (kk := ?_)
            refine z_iload hC (pc := 48) 4 dX13_part_48 rfl ?_
            obtain ⟨b36, h⟩ := h
            refine y_iald hC (pc := 50) (rAr_k hk rfl rfl) dX13_part_50 b36 (v := (rA σ (1000 * (k + 1) + 17) y10)) rfl (kk := ?_)
            have h := h (hwf.a _ _)
            refine z_iload_n hC (pc := 51) 3 dX13_part_51 rfl rfl ?_
            obtain ⟨hT, hF⟩ := h
            refine y_icmp_ne hC (pc := 52) 61 (hwf.a _ _) hx3 dX13_part_52 (by decide) (fun c => ?_) (fun c => ?_)
            · have h := hT c
              refine y_iinc hC (pc := 61) (v := (y10 + 1)) (lv' := [(4, iv (y10 + 1)), (0, .ref (κ k)), (1, iv x1), (2, iv x2), (3, iv x3)]) 4 dX13_part_61 rfl rfl (by decide) rfl ?_
              refine z_goto hC (pc := 64) 6 dX13_part_64 (by decide) ?_
              refine z_lvs [1, 2, 3, 4, 0] rfl ?_
              obtain ⟨r37, h⟩ := h
              obtain ⟨hI, hm⟩ := h
              exact ih6  (y10 + 1)  r37  hI (by omega)
            · have h := hF c
              refine z_ldc hC (pc := 55) (v := Int32.ofInt 100000) dX13_part_55 zw3387 ?_
              refine z_iload hC (pc := 57) 4 dX13_part_57 rfl ?_
              refine y_iadd hC (pc := 59) (v := (100000 + y10)) dX13_part_59 rfl ?_
              obtain ⟨r38, h⟩ := h
              exact y_reti hR dX13_part_60 rfl r38 hwf (Nat.le_of_ble_eq_true rfl) (Nat.le_of_ble_eq_true rfl) ⟨rfl, h⟩
  refine z_lvs [1, 2, 3, 4, 0] rfl ?_
  obtain ⟨r39, h⟩ := h
  exact j6 _  (40 * x1)  r39  h (Nat.le_refl _)
theorem kX13_part (l : Launch) (G : zG) (κ : Nat → Nat) (n : Nat) (ih : Q_part l G κ n) (σ : rS) (k : Nat) (x1 : Int) (x2 : Int) (x3 : Int) (o : Int → Nat) (hwf : rWF σ) (hk : rgk k) (hx1 : rng x1) (hx2 : rng x2) (hx3 : rng x3) (hp : pre_X13_part σ k x1 x2 x3 o) (hr : rk_X13_part σ k x1 x2 x3 o ≤ n + 1) : rMi l G κ yX13_part cX13_part 6 .int (n + 1 + 20) ((n + 1) * 40 + 600) [.ref (κ k), iv x1, iv x2, iv x3] σ (fun x s => s = σ ∧ post_X13_part σ k x1 x2 x3 o x) := wX13_part l G κ n ih σ k x1 x2 x3 o hwf hk hx1 hx2 hx3 (post_X13_part σ k x1 x2 x3 o) (vX13_part n σ k x1 x2 x3 o hwf hk hx1 hx2 hx3 hp hr) (vX13_part_6 n σ k x1 x2 x3 o hwf hk hx1 hx2 hx3 hp hr) (vX13_part_6m n σ k x1 x2 x3 o hwf hk hx1 hx2 hx3 hp hr)
theorem wX13_partAbove (l : Launch) (G : zG) (κ : Nat → Nat) (n : Nat) (ih : Q_part l G κ n) (σ : rS) (k : Nat) (x1 : Int) (x2 : Int) (x3 : Int) (o : Int → Nat) (hwf : rWF σ) (hk : rgk k) (hx1 : rng x1) (hx2 : rng x2) (hx3 : rng x3) (Q : Int → Prop) (h : VC_X13_partAbove n σ k x1 x2 x3 o Q) (h_6 : VC_X13_partAbove_6 n σ k x1 x2 x3 o Q) (h_6m : VC_X13_partAbove_6m n σ k x1 x2 x3 o) : rMi l G κ yX13_partAbove cX13_partAbove 6 .int (n + 1 + 20) ((n + 1) * 40 + 600) [.ref (κ k), iv x1, iv x2, iv x3] σ (fun x s => s = σ ∧ Q x) := by
  refine zMi.intro (by decide +kernel) (Nat.le_of_ble_eq_true rfl) (fun X hC hR => ?_)
  refine z_iconst hC (pc := 0) (v := Int32.ofInt (-1)) dX13_partAbove_0 (by decide) ?_
  refine z_istore hC (pc := 1) (lv' := [(4, iv (-1)), (0, .ref (κ k)), (1, iv x1), (2, iv x2), (3, iv x3)]) dX13_partAbove_1 (by decide) rfl ?_
  refine z_iconst hC (pc := 3) (v := Int32.ofInt 0) dX13_partAbove_3 (by decide) ?_
  refine z_istore hC (pc := 4) (lv' := [(5, iv 0), (4, iv (-1)), (0, .ref (κ k)), (1, iv x1), (2, iv x2), (3, iv x3)]) dX13_partAbove_4 (by decide) rfl ?_
  have j6 : ∀ (d6 : Nat), ∀ (y10 : Int) (y11 : Int), rng y10 → rng y11 → inv_X13_partAbove_6 σ k x1 x2 x3 o σ y10 y11 → (mu_X13_partAbove_6 σ k x1 x2 x3 o σ y10 y11) ≤ d6 → zS X G 6 (rW G κ σ) [(0, .ref (κ k)), (1, iv x1), (2, iv x2), (3, iv x3), (4, iv y10), (5, iv y11)] 0 0 6 [] := by
    intro d6
    induction d6 with
    | zero =>
      intro y10 y11 hy10 hy11 hI hmu
      exact absurd hmu (by have := h_6m   y10 y11  hy10 hy11  hI; omega)
    | succ d6 ih6 =>
      intro y10 y11 hy10 hy11 hI hmu6
      have h := h_6   y10 y11  hy10 hy11  hI
      refine z_iload hC (pc := 6) 5 dX13_partAbove_6 rfl ?_
      refine z_aload_n hC (pc := 8) 0 dX13_partAbove_8 rfl rfl ?_
      refine y_get hC (pc := 9) zf13 (rOb_k hk) 26 (v := .ref (κ (1000 * (k + 1) + 26))) dX13_partAbove_9 zw2359 (rv_c rfl) (kk := ?_)
      refine z_iload_n hC (pc := 12) 1 dX13_partAbove_12 rfl rfl ?_
      obtain ⟨b12, h⟩ := h
      refine y_iald hC (pc := 13) (rAr_k hk rfl rfl) dX13_partAbove_13 b12 (v := (rA σ (1000 * (k + 1) + 26) x1)) rfl (kk := ?_)
      have h := h (hwf.a _ _)
      obtain ⟨hT, hF⟩ := h
      refine y_icmp_ge hC (pc := 14) 49 hy11 (hwf.a _ _) dX13_partAbove_14 (by decide) (fun c => ?_) (fun c => ?_)
      · have h := hT c
        refine z_iload hC (pc := 49) 4 dX13_partAbove_49 rfl ?_
        exact y_reti hR dX13_partAbove_51 rfl hy10 hwf (Nat.le_of_ble_eq_true rfl) (Nat.le_of_ble_eq_true rfl) ⟨rfl, h⟩
      · have h := hF c
        refine z_iload hC (pc := 17) 4 dX13_partAbove_17 rfl ?_
        obtain ⟨hT, hF⟩ := h
        refine y_if_ge hC (pc := 19) 49 hy10 dX13_partAbove_19 (by decide) (fun c => ?_) (fun c => ?_)
        · have h := hT c
          refine z_iload hC (pc := 49) 4 dX13_partAbove_49 rfl ?_
          exact y_reti hR dX13_partAbove_51 rfl hy10 hwf (Nat.le_of_ble_eq_true rfl) (Nat.le_of_ble_eq_true rfl) ⟨rfl, h⟩
        · have h := hF c
          refine z_aload_n hC (pc := 22) 0 dX13_partAbove_22 rfl rfl ?_
          refine z_aload_n hC (pc := 23) 0 dX13_partAbove_23 rfl rfl ?_
          refine y_get hC (pc := 24) zf13 (rOb_k hk) 25 (v := .ref (κ (1000 * (k + 1) + 25))) dX13_partAbove_24 zw2357 (rv_c rfl) (kk := ?_)
          refine z_sipush hC (pc := 27) (v := Int32.ofInt 500) dX13_partAbove_27 (by decide) ?_
          refine z_iload_n hC (pc := 30) 1 dX13_partAbove_30 rfl rfl ?_
          refine y_imul hC (pc := 31) (v := (500 * x1)) dX13_partAbove_31 rfl ?_
          refine z_iload hC (pc := 32) 5 dX13_partAbove_32 rfl ?_
          refine y_iadd hC (pc := 34) (v := ((500 * x1) + y11)) dX13_partAbove_34 rfl ?_
          obtain ⟨b13, h⟩ := h
          refine y_iald hC (pc := 35) (rAr_k hk rfl rfl) dX13_partAbove_35 b13 (v := (rA σ (1000 * (k + 1) + 25) ((500 * x1) + y11))) rfl (kk := ?_)
          have h := h (hwf.a _ _)
          refine z_iload_n hC (pc := 36) 2 dX13_partAbove_36 rfl rfl ?_
          refine z_iload_n hC (pc := 37) 3 dX13_partAbove_37 rfl rfl ?_
          obtain ⟨p14, h⟩ := h
          obtain ⟨p15, h⟩ := h
          refine y_callVi hC (pc := 38) (As := [iv (rA σ (1000 * (k + 1) + 25) ((500 * x1) + y11)), iv x2, iv x3]) (qX13_part ih σ k (rA σ (1000 * (k + 1) + 25) ((500 * x1) + y11)) x2 x3 o hwf hk (hwf.a _ _) hx2 hx3 p14 p15) dmX13_part zf13 (rOb_k hk) dX13_partAbove_38 zw3383 rfl rfl (Nat.le_of_ble_eq_true rfl) (Nat.le_of_ble_eq_true rfl) (by omega) (by omega) (Nat.le_of_ble_eq_true rfl) (kk := fun x17 s16 hx17 Ws16 qs16 => ?_)
          obtain ⟨es16, qs16⟩ := qs16
          have es16 := es16.symm
          subst es16
          have h := h x17 hx17 qs16
          refine z_istore hC (pc := 41) (lv' := [(4, iv x17), (0, .ref (κ k)), (1, iv x1), (2, iv x2), (3, iv x3), (5, iv y11)]) dX13_partAbove_41 (by decide) rfl ?_
          refine y_iinc hC (pc := 43) (v := (y11 + 1)) (lv' := [(5, iv (y11 + 1)), (4, iv x17), (0, .ref (κ k)), (1, iv x1), (2, iv x2), (3, iv x3)]) 5 dX13_partAbove_43 rfl rfl (by decide) rfl ?_
          refine z_goto hC (pc := 46) 6 dX13_partAbove_46 (by decide) ?_
          refine z_lvs [2, 3, 4, 5, 1, 0] rfl ?_
          obtain ⟨r18, h⟩ := h
          obtain ⟨hI, hm⟩ := h
          exact ih6  x17 (y11 + 1)  hx17 r18  hI (by omega)
  refine z_lvs [2, 3, 4, 5, 1, 0] rfl ?_
  exact j6 _  (-1) 0  (r_lit rfl) (r_lit rfl)  h (Nat.le_refl _)
theorem kX13_partAbove (l : Launch) (G : zG) (κ : Nat → Nat) (n : Nat) (ih : Q_part l G κ n) (σ : rS) (k : Nat) (x1 : Int) (x2 : Int) (x3 : Int) (o : Int → Nat) (hwf : rWF σ) (hk : rgk k) (hx1 : rng x1) (hx2 : rng x2) (hx3 : rng x3) (hp : pre_X13_partAbove σ k x1 x2 x3 o) (hr : rk_X13_partAbove σ k x1 x2 x3 o ≤ n + 1) : rMi l G κ yX13_partAbove cX13_partAbove 6 .int (n + 1 + 20) ((n + 1) * 40 + 600) [.ref (κ k), iv x1, iv x2, iv x3] σ (fun x s => s = σ ∧ post_X13_partAbove σ k x1 x2 x3 o x) := wX13_partAbove l G κ n ih σ k x1 x2 x3 o hwf hk hx1 hx2 hx3 (post_X13_partAbove σ k x1 x2 x3 o) (vX13_partAbove n σ k x1 x2 x3 o hwf hk hx1 hx2 hx3 hp hr) (vX13_partAbove_6 n σ k x1 x2 x3 o hwf hk hx1 hx2 hx3 hp hr) (vX13_partAbove_6m n σ k x1 x2 x3 o hwf hk hx1 hx2 hx3 hp hr)
theorem all_part (l : Launch) (G : zG) (κ : Nat → Nat) : ∀ n, Q_part l G κ n := by
  intro n
  induction n with
  | zero => exact ⟨fun _ _ _ _ _ _ _ _ _ _ _ _ hr => absurd hr (by unfold rk_X13_part; omega), fun _ _ _ _ _ _ _ _ _ _ _ _ hr => absurd hr (by unfold rk_X13_partAbove; omega)⟩
  | succ n ih => exact ⟨kX13_part l G κ n ih, kX13_partAbove l G κ n ih⟩
theorem kkX13_part (l : Launch) (G : zG) (κ : Nat → Nat) (σ : rS) (k : Nat) (x1 : Int) (x2 : Int) (x3 : Int) (o : Int → Nat) (hwf : rWF σ) (hk : rgk k) (hx1 : rng x1) (hx2 : rng x2) (hx3 : rng x3) (hp : pre_X13_part σ k x1 x2 x3 o) (hr : rk_X13_part σ k x1 x2 x3 o ≤ 40) : rMi l G κ yX13_part cX13_part 6 .int 60 2200 [.ref (κ k), iv x1, iv x2, iv x3] σ (fun x s => s = σ ∧ post_X13_part σ k x1 x2 x3 o x) := qX13_part (all_part l G κ 40) σ k x1 x2 x3 o hwf hk hx1 hx2 hx3 hp hr
theorem kkX13_partAbove (l : Launch) (G : zG) (κ : Nat → Nat) (σ : rS) (k : Nat) (x1 : Int) (x2 : Int) (x3 : Int) (o : Int → Nat) (hwf : rWF σ) (hk : rgk k) (hx1 : rng x1) (hx2 : rng x2) (hx3 : rng x3) (hp : pre_X13_partAbove σ k x1 x2 x3 o) (hr : rk_X13_partAbove σ k x1 x2 x3 o ≤ 40) : rMi l G κ yX13_partAbove cX13_partAbove 6 .int 60 2200 [.ref (κ k), iv x1, iv x2, iv x3] σ (fun x s => s = σ ∧ post_X13_partAbove σ k x1 x2 x3 o x) := qX13_partAbove (all_part l G κ 40) σ k x1 x2 x3 o hwf hk hx1 hx2 hx3 hp hr
