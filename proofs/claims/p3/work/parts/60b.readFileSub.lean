theorem zw3335 : Cond.code ⟨"TemplateHouseModel", "readFileSub", "()I"⟩ prog_15_method_35_code 4 (Option.some Jvm.ClassFile.FieldType.int) ∈ zT := zsub14 215 rfl rfl
theorem zw3334 : Cond.instanceMethod ⟨"TemplateHouseModel", "readFileSub", "()I"⟩ ∈ zT := zsub14 214 (by decide +kernel) (by decide +kernel)
theorem zwp260 : Cond.selects "TemplateHouseModel" ⟨"TemplateHouseModel", "readFileSub", "()I"⟩ ⟨"TemplateHouseModel", "readFileSub", "()I"⟩ ∈ zT := zin 260 (by decide +kernel) (by decide +kernel)
abbrev cX14_readFileSub : ByteArray := prog_15_method_35_code
abbrev yX14_readFileSub : MethodName := ⟨"TemplateHouseModel", "readFileSub", "()I"⟩
theorem dmX14_readFileSub : zDv yX14_readFileSub cX14_readFileSub 4 (some .int) 0 := ⟨⟨⟨by decide +kernel, by decide +kernel, by decide +kernel⟩, zw3335, zw14⟩, zw3334, zwp260⟩
theorem dX14_readFileSub_0 : decode cX14_readFileSub 0 = .ok (.aload_n 0, 1) := by decide +kernel
theorem dX14_readFileSub_1 : decode cX14_readFileSub 1 = .ok (.getfield 42, 3) := by decide +kernel
theorem dX14_readFileSub_4 : decode cX14_readFileSub 4 = .ok (.istore_n 1, 1) := by decide +kernel
theorem dX14_readFileSub_5 : decode cX14_readFileSub 5 = .ok (.aload_n 0, 1) := by decide +kernel
theorem dX14_readFileSub_6 : decode cX14_readFileSub 6 = .ok (.getfield 46, 3) := by decide +kernel
theorem dX14_readFileSub_9 : decode cX14_readFileSub 9 = .ok (.istore_n 2, 1) := by decide +kernel
theorem dX14_readFileSub_10 : decode cX14_readFileSub 10 = .ok (.aload_n 0, 1) := by decide +kernel
theorem dX14_readFileSub_11 : decode cX14_readFileSub 11 = .ok (.iconst (-1), 1) := by decide +kernel
theorem dX14_readFileSub_12 : decode cX14_readFileSub 12 = .ok (.putfield 42, 3) := by decide +kernel
theorem dX14_readFileSub_15 : decode cX14_readFileSub 15 = .ok (.aload_n 0, 1) := by decide +kernel
theorem dX14_readFileSub_16 : decode cX14_readFileSub 16 = .ok (.iconst (-1), 1) := by decide +kernel
theorem dX14_readFileSub_17 : decode cX14_readFileSub 17 = .ok (.putfield 46, 3) := by decide +kernel
theorem dX14_readFileSub_20 : decode cX14_readFileSub 20 = .ok (.aload_n 0, 1) := by decide +kernel
theorem dX14_readFileSub_21 : decode cX14_readFileSub 21 = .ok (.iconst 0, 1) := by decide +kernel
theorem dX14_readFileSub_22 : decode cX14_readFileSub 22 = .ok (.putfield 533, 3) := by decide +kernel
theorem dX14_readFileSub_25 : decode cX14_readFileSub 25 = .ok (.aload_n 0, 1) := by decide +kernel
theorem dX14_readFileSub_26 : decode cX14_readFileSub 26 = .ok (.getfield 274, 3) := by decide +kernel
theorem dX14_readFileSub_29 : decode cX14_readFileSub 29 = .ok (.istore_n 3, 1) := by decide +kernel
theorem dX14_readFileSub_30 : decode cX14_readFileSub 30 = .ok (.iload_n 3, 1) := by decide +kernel
theorem dX14_readFileSub_31 : decode cX14_readFileSub 31 = .ok (.aload_n 0, 1) := by decide +kernel
theorem dX14_readFileSub_32 : decode cX14_readFileSub 32 = .ok (.getfield 260, 3) := by decide +kernel
theorem dX14_readFileSub_35 : decode cX14_readFileSub 35 = .ok (.if_icmp .ge 20, 3) := by decide +kernel
theorem dX14_readFileSub_55 : decode cX14_readFileSub 55 = .ok (.aload_n 0, 1) := by decide +kernel
theorem dX14_readFileSub_56 : decode cX14_readFileSub 56 = .ok (.aload_n 0, 1) := by decide +kernel
theorem dX14_readFileSub_57 : decode cX14_readFileSub 57 = .ok (.getfield 260, 3) := by decide +kernel
theorem dX14_readFileSub_60 : decode cX14_readFileSub 60 = .ok (.putfield 536, 3) := by decide +kernel
theorem dX14_readFileSub_63 : decode cX14_readFileSub 63 = .ok (.aload_n 0, 1) := by decide +kernel
theorem dX14_readFileSub_64 : decode cX14_readFileSub 64 = .ok (.iconst 0, 1) := by decide +kernel
theorem dX14_readFileSub_65 : decode cX14_readFileSub 65 = .ok (.putfield 548, 3) := by decide +kernel
theorem dX14_readFileSub_68 : decode cX14_readFileSub 68 = .ok (.aload_n 0, 1) := by decide +kernel
theorem dX14_readFileSub_69 : decode cX14_readFileSub 69 = .ok (.iconst 0, 1) := by decide +kernel
theorem dX14_readFileSub_70 : decode cX14_readFileSub 70 = .ok (.putfield 551, 3) := by decide +kernel
theorem dX14_readFileSub_73 : decode cX14_readFileSub 73 = .ok (.aload_n 0, 1) := by decide +kernel
theorem dX14_readFileSub_74 : decode cX14_readFileSub 74 = .ok (.iconst 0, 1) := by decide +kernel
theorem dX14_readFileSub_75 : decode cX14_readFileSub 75 = .ok (.putfield 554, 3) := by decide +kernel
theorem dX14_readFileSub_78 : decode cX14_readFileSub 78 = .ok (.aload_n 0, 1) := by decide +kernel
theorem dX14_readFileSub_79 : decode cX14_readFileSub 79 = .ok (.iconst 0, 1) := by decide +kernel
theorem dX14_readFileSub_80 : decode cX14_readFileSub 80 = .ok (.putfield 557, 3) := by decide +kernel
theorem dX14_readFileSub_83 : decode cX14_readFileSub 83 = .ok (.aload_n 0, 1) := by decide +kernel
theorem dX14_readFileSub_84 : decode cX14_readFileSub 84 = .ok (.invokevirtual 563, 3) := by decide +kernel
theorem dX14_readFileSub_87 : decode cX14_readFileSub 87 = .ok (.istore_n 3, 1) := by decide +kernel
theorem dX14_readFileSub_88 : decode cX14_readFileSub 88 = .ok (.aload_n 0, 1) := by decide +kernel
theorem dX14_readFileSub_89 : decode cX14_readFileSub 89 = .ok (.getfield 248, 3) := by decide +kernel
theorem dX14_readFileSub_92 : decode cX14_readFileSub 92 = .ok (.ifCond .ne 16, 3) := by decide +kernel
theorem dX14_readFileSub_108 : decode cX14_readFileSub 108 = .ok (.aload_n 0, 1) := by decide +kernel
theorem dX14_readFileSub_109 : decode cX14_readFileSub 109 = .ok (.iload_n 1, 1) := by decide +kernel
theorem dX14_readFileSub_110 : decode cX14_readFileSub 110 = .ok (.putfield 42, 3) := by decide +kernel
theorem dX14_readFileSub_113 : decode cX14_readFileSub 113 = .ok (.aload_n 0, 1) := by decide +kernel
theorem dX14_readFileSub_114 : decode cX14_readFileSub 114 = .ok (.iload_n 2, 1) := by decide +kernel
theorem dX14_readFileSub_115 : decode cX14_readFileSub 115 = .ok (.putfield 46, 3) := by decide +kernel
theorem dX14_readFileSub_118 : decode cX14_readFileSub 118 = .ok (.iload_n 3, 1) := by decide +kernel
theorem dX14_readFileSub_119 : decode cX14_readFileSub 119 = .ok (.ireturn, 1) := by decide +kernel
theorem dX14_readFileSub_95 : decode cX14_readFileSub 95 = .ok (.aload_n 0, 1) := by decide +kernel
theorem dX14_readFileSub_96 : decode cX14_readFileSub 96 = .ok (.dup, 1) := by decide +kernel
theorem dX14_readFileSub_97 : decode cX14_readFileSub 97 = .ok (.getfield 274, 3) := by decide +kernel
theorem dX14_readFileSub_100 : decode cX14_readFileSub 100 = .ok (.aload_n 0, 1) := by decide +kernel
theorem dX14_readFileSub_101 : decode cX14_readFileSub 101 = .ok (.getfield 548, 3) := by decide +kernel
theorem dX14_readFileSub_104 : decode cX14_readFileSub 104 = .ok (.iadd, 1) := by decide +kernel
theorem dX14_readFileSub_105 : decode cX14_readFileSub 105 = .ok (.putfield 274, 3) := by decide +kernel
theorem dX14_readFileSub_38 : decode cX14_readFileSub 38 = .ok (.aload_n 0, 1) := by decide +kernel
theorem dX14_readFileSub_39 : decode cX14_readFileSub 39 = .ok (.aload_n 0, 1) := by decide +kernel
theorem dX14_readFileSub_40 : decode cX14_readFileSub 40 = .ok (.getfield 263, 3) := by decide +kernel
theorem dX14_readFileSub_43 : decode cX14_readFileSub 43 = .ok (.iload_n 3, 1) := by decide +kernel
theorem dX14_readFileSub_44 : decode cX14_readFileSub 44 = .ok (.baload, 1) := by decide +kernel
theorem dX14_readFileSub_45 : decode cX14_readFileSub 45 = .ok (.iload_n 3, 1) := by decide +kernel
theorem dX14_readFileSub_46 : decode cX14_readFileSub 46 = .ok (.invokevirtual 545, 3) := by decide +kernel
theorem dX14_readFileSub_49 : decode cX14_readFileSub 49 = .ok (.iinc 3 1, 3) := by decide +kernel
theorem dX14_readFileSub_52 : decode cX14_readFileSub 52 = .ok (.goto (-22), 3) := by decide +kernel
def pre_X14_readFileSub (σ : rS) (gg : Nat) (U : Int) (g : Nat → Int → Int) : Prop := rR σ 7 = gg ∧ rgk gg ∧ FPZ σ gg U ∧ rNMp σ ∧ PNp σ ∧ rfk (rR σ 15) ∧ Im (fz σ = 0) (GS σ gg g) ∧ fz σ = 0 ∧ (rF σ 0 17) < (rF σ 0 16)
def post_X14_readFileSub (σ : rS) (gg : Nat) (U : Int) (g : Nat → Int → Int) (r : Int) (σ' : rS) : Prop := FQZ σ σ' gg ∧ rNMp σ' ∧ PNp σ' ∧ 0 ≤ r ∧ r < (rF σ' gg 7) ∧ Im (fz σ' = 0) (RG (RT σ) σ' gg 0) ∧ ∃ h, Im (fz σ' = 0) (GS σ' gg h ∧ GK g h (rF σ gg 7) (rF σ' gg 7) 0 ∧ NR σ' gg h 19 r ((rF σ gg 7)) 0 9000 0 ∧ ok1)
def inv_X14_readFileSub_30 (σ : rS) (gg : Nat) (U : Int) (g : Nat → Int → Int)  (s : rS) (te : Int) (re : Int) (k : Int) : Prop := (rF s gg 7) = (rF σ gg 7) ∧ (rF s gg 9) = (rF σ gg 9) ∧ (rF s gg 12) = (rF σ gg 12) ∧ (rF s gg 38) = (rF σ gg 38) ∧ (rF s gg 32) = (rF σ gg 32) ∧ (rF s 0 28) = k - (rF σ 0 17) ∧ (rF σ 0 17) ≤ k ∧ k ≤ (rF σ 0 16) ∧ (rF s 0 17) = (rF σ 0 17) ∧ (rF s 0 32) = -1 ∧ (rF s 0 33) = -1 ∧ fz s = 0 ∧ TPqp s ∧ rNMp s ∧ PNp s ∧ GS s gg g ∧ te = (rF σ 0 32) ∧ re = (rF σ 0 33) ∧ RG σ s gg 0
def mu_X14_readFileSub_30 (σ : rS) (gg : Nat) (U : Int) (g : Nat → Int → Int) (s : rS) (te : Int) (re : Int) (k : Int) : Nat := (1 + ((rF σ 0 16) - k).toNat)
def VC_X14_readFileSub (σ : rS) (gg : Nat) (U : Int) (g : Nat → Int → Int) (Q : Int → rS → Prop) : Prop := rgk (rR σ 7) ∧ (rng (rF σ 0 32) → (rng (rF σ 0 33) → (rng (rF σ 0 17) → (inv_X14_readFileSub_30 σ gg U g (sF (sF (sF σ 0 32 (-1)) 0 33 (-1)) 0 28 0) (rF σ 0 32) (rF σ 0 33) (rF σ 0 17)))))
def VC_X14_readFileSub_30 (σ : rS) (gg : Nat) (U : Int) (g : Nat → Int → Int) (Q : Int → rS → Prop) : Prop := ∀ (s30 : rS) (y30_1 : Int) (y30_2 : Int) (y30_3 : Int), rWF s30 → rng y30_1 → rng y30_2 → rng y30_3 → rR s30 7 = rR σ 7 → rR s30 15 = rR σ 15 → rF s30 0 14 = rF σ 0 14 → rF s30 0 16 = rF σ 0 16 → rF s30 0 19 = rF σ 0 19 → inv_X14_readFileSub_30 σ gg U g s30 y30_1 y30_2 y30_3 → ((rng (rF s30 0 16) → (((rF s30 0 16) ≤ y30_3 → ∃ (g18 : Nat → Int → Int), pre_X14_readSub (sF (sF (sF (sF (sF s30 0 30 (rF s30 0 16)) 0 29 0) 0 31 0) 0 38 0) 0 39 0) gg g18 ∧ rk_X14_readSub (sF (sF (sF (sF (sF s30 0 30 (rF s30 0 16)) 0 29 0) 0 31 0) 0 38 0) 0 39 0) gg g18 ≤ 360 ∧ (∀ (v84 : Int) (s84 : rS), rng v84 → rWF s84 → (CCp (sF (sF (sF (sF (sF s30 0 30 (rF s30 0 16)) 0 29 0) 0 31 0) 0 38 0) 0 39 0) → CCp s84) → rR s84 7 = rR (sF (sF (sF (sF (sF s30 0 30 (rF s30 0 16)) 0 29 0) 0 31 0) 0 38 0) 0 39 0) 7 → rR s84 15 = rR (sF (sF (sF (sF (sF s30 0 30 (rF s30 0 16)) 0 29 0) 0 31 0) 0 38 0) 0 39 0) 15 → rF s84 0 14 = rF (sF (sF (sF (sF (sF s30 0 30 (rF s30 0 16)) 0 29 0) 0 31 0) 0 38 0) 0 39 0) 0 14 → rF s84 0 16 = rF (sF (sF (sF (sF (sF s30 0 30 (rF s30 0 16)) 0 29 0) 0 31 0) 0 38 0) 0 39 0) 0 16 → rF s84 0 17 = rF (sF (sF (sF (sF (sF s30 0 30 (rF s30 0 16)) 0 29 0) 0 31 0) 0 38 0) 0 39 0) 0 17 → rF s84 0 19 = rF (sF (sF (sF (sF (sF s30 0 30 (rF s30 0 16)) 0 29 0) 0 31 0) 0 38 0) 0 39 0) 0 19 → rF s84 0 28 = rF (sF (sF (sF (sF (sF s30 0 30 (rF s30 0 16)) 0 29 0) 0 31 0) 0 38 0) 0 39 0) 0 28 → rF s84 0 30 = rF (sF (sF (sF (sF (sF s30 0 30 (rF s30 0 16)) 0 29 0) 0 31 0) 0 38 0) 0 39 0) 0 30 → rF s84 0 32 = rF (sF (sF (sF (sF (sF s30 0 30 (rF s30 0 16)) 0 29 0) 0 31 0) 0 38 0) 0 39 0) 0 32 → rF s84 0 33 = rF (sF (sF (sF (sF (sF s30 0 30 (rF s30 0 16)) 0 29 0) 0 31 0) 0 38 0) 0 39 0) 0 33 → (∀ i, rA s84 1026 i = rA (sF (sF (sF (sF (sF s30 0 30 (rF s30 0 16)) 0 29 0) 0 31 0) 0 38 0) 0 39 0) 1026 i) → (∀ i, rA s84 1027 i = rA (sF (sF (sF (sF (sF s30 0 30 (rF s30 0 16)) 0 29 0) 0 31 0) 0 38 0) 0 39 0) 1027 i) → post_X14_readSub (sF (sF (sF (sF (sF s30 0 30 (rF s30 0 16)) 0 29 0) 0 31 0) 0 38 0) 0 39 0) gg g18 v84 s84 → (rng (rF s84 0 10) → ((¬ (rF s84 0 10) = 0 → Q v84 (sF (sF s84 0 32 y30_1) 0 33 y30_2)) ∧ ((rF s84 0 10) = 0 → (rng (rF s84 0 17) → (rng (rF s84 0 29) → rng ((rF s84 0 17) + (rF s84 0 29)) ∧ Q v84 (sF (sF (sF s84 0 17 ((rF s84 0 17) + (rF s84 0 29))) 0 32 y30_1) 0 33 y30_2)))))))) ∧ (¬ (rF s30 0 16) ≤ y30_3 → rfk (rR s30 15) ∧ (0 ≤ y30_3 ∧ y30_3 < 4000) ∧ (rng (rA s30 (rR s30 15) y30_3) → pre_X14_addByte_f s30 (rA s30 (rR s30 15) y30_3) y30_3 ∧ (∀ (s46 : rS), rWF s46 → (rNMp s30 → rNMp s46) → (WNp s30 → WNp s46) → (PNp s30 → PNp s46) → rR s46 7 = rR s30 7 → rR s46 15 = rR s30 15 → rF s46 0 14 = rF s30 0 14 → rF s46 0 16 = rF s30 0 16 → rF s46 0 17 = rF s30 0 17 → rF s46 0 19 = rF s30 0 19 → rF s46 0 29 = rF s30 0 29 → rF s46 0 30 = rF s30 0 30 → rF s46 0 31 = rF s30 0 31 → rF s46 0 32 = rF s30 0 32 → rF s46 0 33 = rF s30 0 33 → rF s46 0 38 = rF s30 0 38 → rF s46 0 39 = rF s30 0 39 → (∀ i, rA s46 1034 i = rA s30 1034 i) → (∀ i, rA s46 1035 i = rA s30 1035 i) → (∀ i, rA s46 1040 i = rA s30 1040 i) → rF s46 (rR σ 7) 7 = rF s30 (rR σ 7) 7 → rF s46 (rR σ 7) 9 = rF s30 (rR σ 7) 9 → rF s46 (rR σ 7) 12 = rF s30 (rR σ 7) 12 → rF s46 (rR σ 7) 32 = rF s30 (rR σ 7) 32 → rF s46 (rR σ 7) 38 = rF s30 (rR σ 7) 38 → (∀ i, rA s46 (1000 * ((rR σ 7) + 1) + 10) i = rA s30 (1000 * ((rR σ 7) + 1) + 10) i) → (∀ i, rA s46 (1000 * ((rR σ 7) + 1) + 11) i = rA s30 (1000 * ((rR σ 7) + 1) + 11) i) → fz s46 = fz s30 → RG s30 s46 (rR σ 7) 0 → post_X14_addByte_f s30 (rA s30 (rR s30 15) y30_3) y30_3 s46 → rng (y30_3 + 1) ∧ (inv_X14_readFileSub_30 σ gg U g s46 y30_1 y30_2 (y30_3 + 1) ∧ (mu_X14_readFileSub_30 σ gg U g s46 y30_1 y30_2 (y30_3 + 1)) < (mu_X14_readFileSub_30 σ gg U g s30 y30_1 y30_2 y30_3))))))))
def VC_X14_readFileSub_30m (σ : rS) (gg : Nat) (U : Int) (g : Nat → Int → Int) : Prop := ∀ (s30 : rS) (y30_1 : Int) (y30_2 : Int) (y30_3 : Int), rWF s30 → rng y30_1 → rng y30_2 → rng y30_3 → rR s30 7 = rR σ 7 → rR s30 15 = rR σ 15 → rF s30 0 14 = rF σ 0 14 → rF s30 0 16 = rF σ 0 16 → rF s30 0 19 = rF σ 0 19 → inv_X14_readFileSub_30 σ gg U g s30 y30_1 y30_2 y30_3 → 0 < (mu_X14_readFileSub_30 σ gg U g s30 y30_1 y30_2 y30_3)
set_option maxRecDepth 20000 in
set_option maxHeartbeats 20000000 in
theorem vX14_readFileSub (σ : rS) (gg : Nat) (U : Int) (g : Nat → Int → Int) (hwf : rWF σ) (hp : pre_X14_readFileSub σ gg U g) : VC_X14_readFileSub σ gg U g (post_X14_readFileSub σ gg U g) := by
  unfold pre_X14_readFileSub at hp
  obtain ⟨hp_1, hp_2, hp_3, hp_4, hp_5, hp_6, hp_7, hp_8, hp_9⟩ := hp
  subst hp_1
  have hF := hp_3
  unfold FPZ at hF
  have zr0 := fz_rng σ
  unfold VC_X14_readFileSub
  refine ⟨(by (all_goals (repeat' (first | with_reducible intro _ | with_reducible apply And.intro))); all_goals (first | assumption | trivial | (unfold NBP; omega) | (unfold NBQ; omega) | (unfold FPZ; omega) | (unfold FQZ; omega) | omega | (have zz_ := fz_z (by assumption); omega) | (split <;> omega) | (exact TPqp.z (by simp only [rF_sF, Nat.reduceEqDiff, and_false, and_true, reduceIte])) | (exact WNp.z38) | (exact CCp.mk5 (by assumption) (by omega)) | (exact RG.rf) | (exact RG.tr0 RI_ R46) | (exact G46) | (exact hp_7 hp_8) | (exact fun _ => by assumption) | done)), ?_⟩
  intro hr_; unfold rng at hr_
  intro hr_; unfold rng at hr_
  intro hr_; unfold rng at hr_
  exact (by (try simp only [inv_X14_readFileSub_30, reduceIte, and_true, true_and, and_false, false_and, and_self, Nat.reduceEqDiff, fz_sF32, rF_sF, rA_sF, rR_sF, tr_sF, rNMp_sF, PNp_sF, GS_F32, OP_F32, NR_F32, LI_F32, RG_l32, RG_r32, TPRp_sF32, WNp_sF32, VMp_sF32, KYp_sF32, PPp_sF32, WFp_sF32, fz_sF33, GS_F33, OP_F33, NR_F33, LI_F33, RG_l33, RG_r33, TPRp_sF33, WNp_sF33, VMp_sF33, KYp_sF33, PPp_sF33, WFp_sF33, fz_sF28, GS_F28, OP_F28, NR_F28, LI_F28, RG_l28, RG_r28, WNp_sF28, VMp_sF28, KYp_sF28, PPp_sF28, WFp_sF28, rk_n0 hp_2]); (all_goals (repeat' (first | with_reducible intro _ | with_reducible apply And.intro))); all_goals (first | assumption | trivial | (unfold NBP; (try simp only [reduceIte, and_true, true_and, and_false, false_and, and_self, Nat.reduceEqDiff, fz_sF32, rF_sF, rA_sF, rR_sF, tr_sF, rNMp_sF, PNp_sF, GS_F32, OP_F32, NR_F32, LI_F32, RG_l32, RG_r32, TPRp_sF32, WNp_sF32, VMp_sF32, KYp_sF32, PPp_sF32, WFp_sF32, fz_sF33, GS_F33, OP_F33, NR_F33, LI_F33, RG_l33, RG_r33, TPRp_sF33, WNp_sF33, VMp_sF33, KYp_sF33, PPp_sF33, WFp_sF33, fz_sF28, GS_F28, OP_F28, NR_F28, LI_F28, RG_l28, RG_r28, WNp_sF28, VMp_sF28, KYp_sF28, PPp_sF28, WFp_sF28, rk_n0 hp_2]); omega) | (unfold NBQ; (try simp only [reduceIte, and_true, true_and, and_false, false_and, and_self, Nat.reduceEqDiff, fz_sF32, rF_sF, rA_sF, rR_sF, tr_sF, rNMp_sF, PNp_sF, GS_F32, OP_F32, NR_F32, LI_F32, RG_l32, RG_r32, TPRp_sF32, WNp_sF32, VMp_sF32, KYp_sF32, PPp_sF32, WFp_sF32, fz_sF33, GS_F33, OP_F33, NR_F33, LI_F33, RG_l33, RG_r33, TPRp_sF33, WNp_sF33, VMp_sF33, KYp_sF33, PPp_sF33, WFp_sF33, fz_sF28, GS_F28, OP_F28, NR_F28, LI_F28, RG_l28, RG_r28, WNp_sF28, VMp_sF28, KYp_sF28, PPp_sF28, WFp_sF28, rk_n0 hp_2]); omega) | (unfold FPZ; (try simp only [reduceIte, and_true, true_and, and_false, false_and, and_self, Nat.reduceEqDiff, fz_sF32, rF_sF, rA_sF, rR_sF, tr_sF, rNMp_sF, PNp_sF, GS_F32, OP_F32, NR_F32, LI_F32, RG_l32, RG_r32, TPRp_sF32, WNp_sF32, VMp_sF32, KYp_sF32, PPp_sF32, WFp_sF32, fz_sF33, GS_F33, OP_F33, NR_F33, LI_F33, RG_l33, RG_r33, TPRp_sF33, WNp_sF33, VMp_sF33, KYp_sF33, PPp_sF33, WFp_sF33, fz_sF28, GS_F28, OP_F28, NR_F28, LI_F28, RG_l28, RG_r28, WNp_sF28, VMp_sF28, KYp_sF28, PPp_sF28, WFp_sF28, rk_n0 hp_2]); omega) | (unfold FQZ; (try simp only [reduceIte, and_true, true_and, and_false, false_and, and_self, Nat.reduceEqDiff, fz_sF32, rF_sF, rA_sF, rR_sF, tr_sF, rNMp_sF, PNp_sF, GS_F32, OP_F32, NR_F32, LI_F32, RG_l32, RG_r32, TPRp_sF32, WNp_sF32, VMp_sF32, KYp_sF32, PPp_sF32, WFp_sF32, fz_sF33, GS_F33, OP_F33, NR_F33, LI_F33, RG_l33, RG_r33, TPRp_sF33, WNp_sF33, VMp_sF33, KYp_sF33, PPp_sF33, WFp_sF33, fz_sF28, GS_F28, OP_F28, NR_F28, LI_F28, RG_l28, RG_r28, WNp_sF28, VMp_sF28, KYp_sF28, PPp_sF28, WFp_sF28, rk_n0 hp_2]); omega) | omega | (have zz_ := fz_z (by assumption); omega) | (split <;> omega) | (exact TPqp.z (by simp only [rF_sF, Nat.reduceEqDiff, and_false, and_true, reduceIte])) | (exact WNp.z38) | (exact CCp.mk5 (by assumption) (by omega)) | (exact RG.rf) | (exact RG.tr0 RI_ R46) | (exact G46) | (exact hp_7 hp_8) | (exact fun _ => by assumption) | done))
set_option maxRecDepth 20000 in
set_option maxHeartbeats 20000000 in
theorem vX14_readFileSub_30 (σ : rS) (gg : Nat) (U : Int) (g : Nat → Int → Int) (hwf : rWF σ) (hp : pre_X14_readFileSub σ gg U g) : VC_X14_readFileSub_30 σ gg U g (post_X14_readFileSub σ gg U g) := by
  unfold pre_X14_readFileSub at hp
  obtain ⟨hp_1, hp_2, hp_3, hp_4, hp_5, hp_6, hp_7, hp_8, hp_9⟩ := hp
  subst hp_1
  have hF := hp_3
  unfold FPZ at hF
  have zr0 := fz_rng σ
  unfold VC_X14_readFileSub_30
  intro s30 y30_1 y30_2 y30_3 Ws30 hy30_1 hy30_2 hy30_3 e30_0 e30_1 e30_2 e30_3 e30_4 I30
  have Ks30 : rR s30 7 = rR σ 7 := by omega
  have Fs30 : rR s30 15 = rR σ 15 := by omega
  unfold inv_X14_readFileSub_30 at I30
  obtain ⟨I30_1, I30_2, I30_3, I30_4, I30_5, I30_6, I30_7, I30_8, I30_9, I30_10, I30_11, I30_12, I30_13, I30_14, I30_15, I30_16, I30_17, I30_18, I30_19⟩ := I30
  (try simp only [Ks30, Fs30, NBP, NBQ, FPZ, FQZ] at I30_1 I30_2 I30_3 I30_4 I30_5 I30_6 I30_7 I30_8 I30_9 I30_10 I30_11 I30_12 I30_13 I30_14 I30_15 I30_16 I30_17 I30_18 I30_19)
  have RI_ := I30_19
  intro hr_; unfold rng at hr_
  refine ⟨fun c35 => ?_, fun c35 => ?_⟩
  · refine ⟨g, ?_⟩
    refine ⟨(by (try simp only [pre_X14_readSub, reduceIte, and_true, true_and, and_false, false_and, and_self, Nat.reduceEqDiff, fz_sF30, rF_sF, rA_sF, rR_sF, tr_sF, rNMp_sF, PNp_sF, GS_F30, OP_F30, NR_F30, LI_F30, RG_l30, RG_r30, WNp_sF30, VMp_sF30, KYp_sF30, PPp_sF30, WFp_sF30, fz_sF29, GS_F29, OP_F29, NR_F29, LI_F29, RG_l29, RG_r29, TPRp_sF29, WNp_sF29, VMp_sF29, KYp_sF29, PPp_sF29, WFp_sF29, CCp_sF29, fz_sF31, GS_F31, OP_F31, NR_F31, LI_F31, RG_l31, RG_r31, TPRp_sF31, WNp_sF31, VMp_sF31, KYp_sF31, PPp_sF31, WFp_sF31, CCp_sF31, fz_sF38, GS_F38, OP_F38, NR_F38, LI_F38, TPRp_sF38, VMp_sF38, KYp_sF38, PPp_sF38, WFp_sF38, CCp_sF38, fz_sF39, GS_F39, OP_F39, NR_F39, LI_F39, TPRp_sF39, WNp_sF39, VMp_sF39, KYp_sF39, PPp_sF39, WFp_sF39, CCp_sF39, rk_n0 hp_2, Ks30, Fs30]); (all_goals (repeat' (first | with_reducible intro _ | with_reducible apply And.intro))); all_goals (first | assumption | trivial | (unfold NBP; (try simp only [reduceIte, and_true, true_and, and_false, false_and, and_self, Nat.reduceEqDiff, fz_sF30, rF_sF, rA_sF, rR_sF, tr_sF, rNMp_sF, PNp_sF, GS_F30, OP_F30, NR_F30, LI_F30, RG_l30, RG_r30, WNp_sF30, VMp_sF30, KYp_sF30, PPp_sF30, WFp_sF30, fz_sF29, GS_F29, OP_F29, NR_F29, LI_F29, RG_l29, RG_r29, TPRp_sF29, WNp_sF29, VMp_sF29, KYp_sF29, PPp_sF29, WFp_sF29, CCp_sF29, fz_sF31, GS_F31, OP_F31, NR_F31, LI_F31, RG_l31, RG_r31, TPRp_sF31, WNp_sF31, VMp_sF31, KYp_sF31, PPp_sF31, WFp_sF31, CCp_sF31, fz_sF38, GS_F38, OP_F38, NR_F38, LI_F38, TPRp_sF38, VMp_sF38, KYp_sF38, PPp_sF38, WFp_sF38, CCp_sF38, fz_sF39, GS_F39, OP_F39, NR_F39, LI_F39, TPRp_sF39, WNp_sF39, VMp_sF39, KYp_sF39, PPp_sF39, WFp_sF39, CCp_sF39, rk_n0 hp_2, Ks30, Fs30]); omega) | (unfold NBQ; (try simp only [reduceIte, and_true, true_and, and_false, false_and, and_self, Nat.reduceEqDiff, fz_sF30, rF_sF, rA_sF, rR_sF, tr_sF, rNMp_sF, PNp_sF, GS_F30, OP_F30, NR_F30, LI_F30, RG_l30, RG_r30, WNp_sF30, VMp_sF30, KYp_sF30, PPp_sF30, WFp_sF30, fz_sF29, GS_F29, OP_F29, NR_F29, LI_F29, RG_l29, RG_r29, TPRp_sF29, WNp_sF29, VMp_sF29, KYp_sF29, PPp_sF29, WFp_sF29, CCp_sF29, fz_sF31, GS_F31, OP_F31, NR_F31, LI_F31, RG_l31, RG_r31, TPRp_sF31, WNp_sF31, VMp_sF31, KYp_sF31, PPp_sF31, WFp_sF31, CCp_sF31, fz_sF38, GS_F38, OP_F38, NR_F38, LI_F38, TPRp_sF38, VMp_sF38, KYp_sF38, PPp_sF38, WFp_sF38, CCp_sF38, fz_sF39, GS_F39, OP_F39, NR_F39, LI_F39, TPRp_sF39, WNp_sF39, VMp_sF39, KYp_sF39, PPp_sF39, WFp_sF39, CCp_sF39, rk_n0 hp_2, Ks30, Fs30]); omega) | (unfold FPZ; (try simp only [reduceIte, and_true, true_and, and_false, false_and, and_self, Nat.reduceEqDiff, fz_sF30, rF_sF, rA_sF, rR_sF, tr_sF, rNMp_sF, PNp_sF, GS_F30, OP_F30, NR_F30, LI_F30, RG_l30, RG_r30, WNp_sF30, VMp_sF30, KYp_sF30, PPp_sF30, WFp_sF30, fz_sF29, GS_F29, OP_F29, NR_F29, LI_F29, RG_l29, RG_r29, TPRp_sF29, WNp_sF29, VMp_sF29, KYp_sF29, PPp_sF29, WFp_sF29, CCp_sF29, fz_sF31, GS_F31, OP_F31, NR_F31, LI_F31, RG_l31, RG_r31, TPRp_sF31, WNp_sF31, VMp_sF31, KYp_sF31, PPp_sF31, WFp_sF31, CCp_sF31, fz_sF38, GS_F38, OP_F38, NR_F38, LI_F38, TPRp_sF38, VMp_sF38, KYp_sF38, PPp_sF38, WFp_sF38, CCp_sF38, fz_sF39, GS_F39, OP_F39, NR_F39, LI_F39, TPRp_sF39, WNp_sF39, VMp_sF39, KYp_sF39, PPp_sF39, WFp_sF39, CCp_sF39, rk_n0 hp_2, Ks30, Fs30]); omega) | (unfold FQZ; (try simp only [reduceIte, and_true, true_and, and_false, false_and, and_self, Nat.reduceEqDiff, fz_sF30, rF_sF, rA_sF, rR_sF, tr_sF, rNMp_sF, PNp_sF, GS_F30, OP_F30, NR_F30, LI_F30, RG_l30, RG_r30, WNp_sF30, VMp_sF30, KYp_sF30, PPp_sF30, WFp_sF30, fz_sF29, GS_F29, OP_F29, NR_F29, LI_F29, RG_l29, RG_r29, TPRp_sF29, WNp_sF29, VMp_sF29, KYp_sF29, PPp_sF29, WFp_sF29, CCp_sF29, fz_sF31, GS_F31, OP_F31, NR_F31, LI_F31, RG_l31, RG_r31, TPRp_sF31, WNp_sF31, VMp_sF31, KYp_sF31, PPp_sF31, WFp_sF31, CCp_sF31, fz_sF38, GS_F38, OP_F38, NR_F38, LI_F38, TPRp_sF38, VMp_sF38, KYp_sF38, PPp_sF38, WFp_sF38, CCp_sF38, fz_sF39, GS_F39, OP_F39, NR_F39, LI_F39, TPRp_sF39, WNp_sF39, VMp_sF39, KYp_sF39, PPp_sF39, WFp_sF39, CCp_sF39, rk_n0 hp_2, Ks30, Fs30]); omega) | omega | (have zz_ := fz_z (by assumption); omega) | (split <;> omega) | (exact TPqp.z (by simp only [rF_sF, Nat.reduceEqDiff, and_false, and_true, reduceIte])) | (exact WNp.z38) | (exact CCp.mk5 (by assumption) (by omega)) | (exact RG.rf) | (exact RG.tr0 RI_ R46) | (exact G46) | (exact hp_7 hp_8) | (exact fun _ => by assumption) | done)), ?_⟩
    refine ⟨(by (try simp only [rk_X14_readSub, reduceIte, and_true, true_and, and_false, false_and, and_self, Nat.reduceEqDiff, fz_sF30, rF_sF, rA_sF, rR_sF, tr_sF, rNMp_sF, PNp_sF, GS_F30, OP_F30, NR_F30, LI_F30, RG_l30, RG_r30, WNp_sF30, VMp_sF30, KYp_sF30, PPp_sF30, WFp_sF30, fz_sF29, GS_F29, OP_F29, NR_F29, LI_F29, RG_l29, RG_r29, TPRp_sF29, WNp_sF29, VMp_sF29, KYp_sF29, PPp_sF29, WFp_sF29, CCp_sF29, fz_sF31, GS_F31, OP_F31, NR_F31, LI_F31, RG_l31, RG_r31, TPRp_sF31, WNp_sF31, VMp_sF31, KYp_sF31, PPp_sF31, WFp_sF31, CCp_sF31, fz_sF38, GS_F38, OP_F38, NR_F38, LI_F38, TPRp_sF38, VMp_sF38, KYp_sF38, PPp_sF38, WFp_sF38, CCp_sF38, fz_sF39, GS_F39, OP_F39, NR_F39, LI_F39, TPRp_sF39, WNp_sF39, VMp_sF39, KYp_sF39, PPp_sF39, WFp_sF39, CCp_sF39, rk_n0 hp_2, Ks30, Fs30]); (all_goals (repeat' (first | with_reducible intro _ | with_reducible apply And.intro))); all_goals (first | assumption | trivial | (unfold NBP; (try simp only [reduceIte, and_true, true_and, and_false, false_and, and_self, Nat.reduceEqDiff, fz_sF30, rF_sF, rA_sF, rR_sF, tr_sF, rNMp_sF, PNp_sF, GS_F30, OP_F30, NR_F30, LI_F30, RG_l30, RG_r30, WNp_sF30, VMp_sF30, KYp_sF30, PPp_sF30, WFp_sF30, fz_sF29, GS_F29, OP_F29, NR_F29, LI_F29, RG_l29, RG_r29, TPRp_sF29, WNp_sF29, VMp_sF29, KYp_sF29, PPp_sF29, WFp_sF29, CCp_sF29, fz_sF31, GS_F31, OP_F31, NR_F31, LI_F31, RG_l31, RG_r31, TPRp_sF31, WNp_sF31, VMp_sF31, KYp_sF31, PPp_sF31, WFp_sF31, CCp_sF31, fz_sF38, GS_F38, OP_F38, NR_F38, LI_F38, TPRp_sF38, VMp_sF38, KYp_sF38, PPp_sF38, WFp_sF38, CCp_sF38, fz_sF39, GS_F39, OP_F39, NR_F39, LI_F39, TPRp_sF39, WNp_sF39, VMp_sF39, KYp_sF39, PPp_sF39, WFp_sF39, CCp_sF39, rk_n0 hp_2, Ks30, Fs30]); omega) | (unfold NBQ; (try simp only [reduceIte, and_true, true_and, and_false, false_and, and_self, Nat.reduceEqDiff, fz_sF30, rF_sF, rA_sF, rR_sF, tr_sF, rNMp_sF, PNp_sF, GS_F30, OP_F30, NR_F30, LI_F30, RG_l30, RG_r30, WNp_sF30, VMp_sF30, KYp_sF30, PPp_sF30, WFp_sF30, fz_sF29, GS_F29, OP_F29, NR_F29, LI_F29, RG_l29, RG_r29, TPRp_sF29, WNp_sF29, VMp_sF29, KYp_sF29, PPp_sF29, WFp_sF29, CCp_sF29, fz_sF31, GS_F31, OP_F31, NR_F31, LI_F31, RG_l31, RG_r31, TPRp_sF31, WNp_sF31, VMp_sF31, KYp_sF31, PPp_sF31, WFp_sF31, CCp_sF31, fz_sF38, GS_F38, OP_F38, NR_F38, LI_F38, TPRp_sF38, VMp_sF38, KYp_sF38, PPp_sF38, WFp_sF38, CCp_sF38, fz_sF39, GS_F39, OP_F39, NR_F39, LI_F39, TPRp_sF39, WNp_sF39, VMp_sF39, KYp_sF39, PPp_sF39, WFp_sF39, CCp_sF39, rk_n0 hp_2, Ks30, Fs30]); omega) | (unfold FPZ; (try simp only [reduceIte, and_true, true_and, and_false, false_and, and_self, Nat.reduceEqDiff, fz_sF30, rF_sF, rA_sF, rR_sF, tr_sF, rNMp_sF, PNp_sF, GS_F30, OP_F30, NR_F30, LI_F30, RG_l30, RG_r30, WNp_sF30, VMp_sF30, KYp_sF30, PPp_sF30, WFp_sF30, fz_sF29, GS_F29, OP_F29, NR_F29, LI_F29, RG_l29, RG_r29, TPRp_sF29, WNp_sF29, VMp_sF29, KYp_sF29, PPp_sF29, WFp_sF29, CCp_sF29, fz_sF31, GS_F31, OP_F31, NR_F31, LI_F31, RG_l31, RG_r31, TPRp_sF31, WNp_sF31, VMp_sF31, KYp_sF31, PPp_sF31, WFp_sF31, CCp_sF31, fz_sF38, GS_F38, OP_F38, NR_F38, LI_F38, TPRp_sF38, VMp_sF38, KYp_sF38, PPp_sF38, WFp_sF38, CCp_sF38, fz_sF39, GS_F39, OP_F39, NR_F39, LI_F39, TPRp_sF39, WNp_sF39, VMp_sF39, KYp_sF39, PPp_sF39, WFp_sF39, CCp_sF39, rk_n0 hp_2, Ks30, Fs30]); omega) | (unfold FQZ; (try simp only [reduceIte, and_true, true_and, and_false, false_and, and_self, Nat.reduceEqDiff, fz_sF30, rF_sF, rA_sF, rR_sF, tr_sF, rNMp_sF, PNp_sF, GS_F30, OP_F30, NR_F30, LI_F30, RG_l30, RG_r30, WNp_sF30, VMp_sF30, KYp_sF30, PPp_sF30, WFp_sF30, fz_sF29, GS_F29, OP_F29, NR_F29, LI_F29, RG_l29, RG_r29, TPRp_sF29, WNp_sF29, VMp_sF29, KYp_sF29, PPp_sF29, WFp_sF29, CCp_sF29, fz_sF31, GS_F31, OP_F31, NR_F31, LI_F31, RG_l31, RG_r31, TPRp_sF31, WNp_sF31, VMp_sF31, KYp_sF31, PPp_sF31, WFp_sF31, CCp_sF31, fz_sF38, GS_F38, OP_F38, NR_F38, LI_F38, TPRp_sF38, VMp_sF38, KYp_sF38, PPp_sF38, WFp_sF38, CCp_sF38, fz_sF39, GS_F39, OP_F39, NR_F39, LI_F39, TPRp_sF39, WNp_sF39, VMp_sF39, KYp_sF39, PPp_sF39, WFp_sF39, CCp_sF39, rk_n0 hp_2, Ks30, Fs30]); omega) | omega | (have zz_ := fz_z (by assumption); omega) | (split <;> omega) | (exact TPqp.z (by simp only [rF_sF, Nat.reduceEqDiff, and_false, and_true, reduceIte])) | (exact WNp.z38) | (exact CCp.mk5 (by assumption) (by omega)) | (exact RG.rf) | (exact RG.tr0 RI_ R46) | (exact G46) | (exact hp_7 hp_8) | (exact fun _ => by assumption) | done)), ?_⟩
    intro v84 s84 hv84 Ws84 e84_0 e84_1 e84_2 e84_3 e84_4 e84_5 e84_6 e84_7 e84_8 e84_9 e84_10 e84_11 e84_12 q84
    unfold rng at hv84
    unfold post_X14_readSub at q84
    obtain ⟨q84_1, q84_2, q84_3, q84_4, q84_5, q84_6, q84_7, q84_8, q84_9, q84_10⟩ := q84
    (try simp only [reduceIte, and_true, true_and, and_false, false_and, and_self, Nat.reduceEqDiff, fz_sF30, rF_sF, rA_sF, rR_sF, tr_sF, rNMp_sF, PNp_sF, GS_F30, OP_F30, NR_F30, LI_F30, RG_l30, RG_r30, WNp_sF30, VMp_sF30, KYp_sF30, PPp_sF30, WFp_sF30, fz_sF29, GS_F29, OP_F29, NR_F29, LI_F29, RG_l29, RG_r29, TPRp_sF29, WNp_sF29, VMp_sF29, KYp_sF29, PPp_sF29, WFp_sF29, CCp_sF29, fz_sF31, GS_F31, OP_F31, NR_F31, LI_F31, RG_l31, RG_r31, TPRp_sF31, WNp_sF31, VMp_sF31, KYp_sF31, PPp_sF31, WFp_sF31, CCp_sF31, fz_sF38, GS_F38, OP_F38, NR_F38, LI_F38, TPRp_sF38, VMp_sF38, KYp_sF38, PPp_sF38, WFp_sF38, CCp_sF38, fz_sF39, GS_F39, OP_F39, NR_F39, LI_F39, TPRp_sF39, WNp_sF39, VMp_sF39, KYp_sF39, PPp_sF39, WFp_sF39, CCp_sF39, rk_n0 hp_2, Ks30, Fs30, NBP, NBQ, FPZ, FQZ] at q84_1 q84_2 q84_3 q84_4 q84_5 q84_6 q84_7 q84_8 q84_9 q84_10 e84_0 e84_1 e84_2 e84_3 e84_4 e84_5 e84_6 e84_7 e84_8 e84_9 e84_10 e84_11 e84_12)
    have Ks84 : rR s84 7 = rR σ 7 := by first | assumption | ((try simp only [rR_sF, rR_sA, rR_sT, rR_sL] at e84_0 e84_1 e84_2 e84_3 e84_4 e84_5 e84_6 e84_7 e84_8 e84_9 e84_10 e84_11 e84_12); omega)
    have Fs84 : rR s84 15 = rR σ 15 := by first | assumption | ((try simp only [rR_sF, rR_sA, rR_sT, rR_sL] at e84_0 e84_1 e84_2 e84_3 e84_4 e84_5 e84_6 e84_7 e84_8 e84_9 e84_10 e84_11 e84_12); omega)
    clear e84_0
    have zq_ := fz_rng s84
    obtain ⟨g84, X84⟩ := q84_10
    have E84 : ∃ h, Im (fz s84 = 0) (GS s84 (rR σ 7) h ∧ GK g h (rF σ (rR σ 7) 7) (rF s84 (rR σ 7) 7) 0 ∧ NR s84 (rR σ 7) h 19 v84 (rF σ (rR σ 7) 7) 0 9000 0 ∧ ok1) := ⟨g84, fun hf_ => ⟨(X84 hf_).1, by have k_ := (X84 hf_).2.1; rw [show rF s30 (rR σ 7) 7 = rF σ (rR σ 7) 7 by omega] at k_; exact k_, ((X84 hf_).2.2.1.so so_10_19).cst, ok1.i⟩⟩
    have A84 : Im (fz s84 = 0) (RG (RT σ) s84 (rR σ 7) 0) := fun hf_ => RG.tt (RG.rt5 (q84_9 hf_)) (RG.tr0 (RG.t0f (by omega) (by omega)) I30_19)
    intro hr_; unfold rng at hr_
    refine ⟨fun c92 => ?_, fun c92 => ?_⟩
    · have z92 := fz_n c92
      exact (by (try simp only [post_X14_readFileSub, reduceIte, and_true, true_and, and_false, false_and, and_self, Nat.reduceEqDiff, fz_sF32, rF_sF, rA_sF, rR_sF, tr_sF, rNMp_sF, PNp_sF, GS_F32, OP_F32, NR_F32, LI_F32, RG_l32, RG_r32, TPRp_sF32, WNp_sF32, VMp_sF32, KYp_sF32, PPp_sF32, WFp_sF32, fz_sF33, GS_F33, OP_F33, NR_F33, LI_F33, RG_l33, RG_r33, TPRp_sF33, WNp_sF33, VMp_sF33, KYp_sF33, PPp_sF33, WFp_sF33, rk_n0 hp_2, Ks84, Fs84]); (all_goals (repeat' (first | with_reducible intro _ | with_reducible apply And.intro))); all_goals (first | assumption | trivial | (unfold NBP; (try simp only [reduceIte, and_true, true_and, and_false, false_and, and_self, Nat.reduceEqDiff, fz_sF32, rF_sF, rA_sF, rR_sF, tr_sF, rNMp_sF, PNp_sF, GS_F32, OP_F32, NR_F32, LI_F32, RG_l32, RG_r32, TPRp_sF32, WNp_sF32, VMp_sF32, KYp_sF32, PPp_sF32, WFp_sF32, fz_sF33, GS_F33, OP_F33, NR_F33, LI_F33, RG_l33, RG_r33, TPRp_sF33, WNp_sF33, VMp_sF33, KYp_sF33, PPp_sF33, WFp_sF33, rk_n0 hp_2, Ks84, Fs84]); omega) | (unfold NBQ; (try simp only [reduceIte, and_true, true_and, and_false, false_and, and_self, Nat.reduceEqDiff, fz_sF32, rF_sF, rA_sF, rR_sF, tr_sF, rNMp_sF, PNp_sF, GS_F32, OP_F32, NR_F32, LI_F32, RG_l32, RG_r32, TPRp_sF32, WNp_sF32, VMp_sF32, KYp_sF32, PPp_sF32, WFp_sF32, fz_sF33, GS_F33, OP_F33, NR_F33, LI_F33, RG_l33, RG_r33, TPRp_sF33, WNp_sF33, VMp_sF33, KYp_sF33, PPp_sF33, WFp_sF33, rk_n0 hp_2, Ks84, Fs84]); omega) | (unfold FPZ; (try simp only [reduceIte, and_true, true_and, and_false, false_and, and_self, Nat.reduceEqDiff, fz_sF32, rF_sF, rA_sF, rR_sF, tr_sF, rNMp_sF, PNp_sF, GS_F32, OP_F32, NR_F32, LI_F32, RG_l32, RG_r32, TPRp_sF32, WNp_sF32, VMp_sF32, KYp_sF32, PPp_sF32, WFp_sF32, fz_sF33, GS_F33, OP_F33, NR_F33, LI_F33, RG_l33, RG_r33, TPRp_sF33, WNp_sF33, VMp_sF33, KYp_sF33, PPp_sF33, WFp_sF33, rk_n0 hp_2, Ks84, Fs84]); omega) | (unfold FQZ; (try simp only [reduceIte, and_true, true_and, and_false, false_and, and_self, Nat.reduceEqDiff, fz_sF32, rF_sF, rA_sF, rR_sF, tr_sF, rNMp_sF, PNp_sF, GS_F32, OP_F32, NR_F32, LI_F32, RG_l32, RG_r32, TPRp_sF32, WNp_sF32, VMp_sF32, KYp_sF32, PPp_sF32, WFp_sF32, fz_sF33, GS_F33, OP_F33, NR_F33, LI_F33, RG_l33, RG_r33, TPRp_sF33, WNp_sF33, VMp_sF33, KYp_sF33, PPp_sF33, WFp_sF33, rk_n0 hp_2, Ks84, Fs84]); omega) | omega | (have zz_ := fz_z (by assumption); omega) | (split <;> omega) | (exact TPqp.z (by simp only [rF_sF, Nat.reduceEqDiff, and_false, and_true, reduceIte])) | (exact WNp.z38) | (exact CCp.mk5 (by assumption) (by omega)) | (exact RG.rf) | (exact RG.tr0 RI_ R46) | (exact G46) | (exact hp_7 hp_8) | (exact fun _ => by assumption) | done))
    · have z92 := fz_z c92
      intro hr_; unfold rng at hr_
      intro hr_; unfold rng at hr_
      refine ⟨(by (try simp only [rng, Ks84, Fs84]); (all_goals (repeat' (first | with_reducible intro _ | with_reducible apply And.intro))); all_goals (first | assumption | trivial | (unfold NBP; (try simp only [Ks84, Fs84]); omega) | (unfold NBQ; (try simp only [Ks84, Fs84]); omega) | (unfold FPZ; (try simp only [Ks84, Fs84]); omega) | (unfold FQZ; (try simp only [Ks84, Fs84]); omega) | omega | (have zz_ := fz_z (by assumption); omega) | (split <;> omega) | (exact TPqp.z (by simp only [rF_sF, Nat.reduceEqDiff, and_false, and_true, reduceIte])) | (exact WNp.z38) | (exact CCp.mk5 (by assumption) (by omega)) | (exact RG.rf) | (exact RG.tr0 RI_ R46) | (exact G46) | (exact hp_7 hp_8) | (exact fun _ => by assumption) | done)), ?_⟩
      exact (by (try simp only [post_X14_readFileSub, reduceIte, and_true, true_and, and_false, false_and, and_self, Nat.reduceEqDiff, fz_sF17, rF_sF, rA_sF, rR_sF, tr_sF, rNMp_sF, PNp_sF, GS_F17, OP_F17, NR_F17, LI_F17, RG_l17, RG_r17, TPRp_sF17, WNp_sF17, VMp_sF17, KYp_sF17, PPp_sF17, WFp_sF17, CCp_sF17, fz_sF32, GS_F32, OP_F32, NR_F32, LI_F32, RG_l32, RG_r32, TPRp_sF32, WNp_sF32, VMp_sF32, KYp_sF32, PPp_sF32, WFp_sF32, fz_sF33, GS_F33, OP_F33, NR_F33, LI_F33, RG_l33, RG_r33, TPRp_sF33, WNp_sF33, VMp_sF33, KYp_sF33, PPp_sF33, WFp_sF33, rk_n0 hp_2, Ks84, Fs84]); (all_goals (repeat' (first | with_reducible intro _ | with_reducible apply And.intro))); all_goals (first | assumption | trivial | (unfold NBP; (try simp only [reduceIte, and_true, true_and, and_false, false_and, and_self, Nat.reduceEqDiff, fz_sF17, rF_sF, rA_sF, rR_sF, tr_sF, rNMp_sF, PNp_sF, GS_F17, OP_F17, NR_F17, LI_F17, RG_l17, RG_r17, TPRp_sF17, WNp_sF17, VMp_sF17, KYp_sF17, PPp_sF17, WFp_sF17, CCp_sF17, fz_sF32, GS_F32, OP_F32, NR_F32, LI_F32, RG_l32, RG_r32, TPRp_sF32, WNp_sF32, VMp_sF32, KYp_sF32, PPp_sF32, WFp_sF32, fz_sF33, GS_F33, OP_F33, NR_F33, LI_F33, RG_l33, RG_r33, TPRp_sF33, WNp_sF33, VMp_sF33, KYp_sF33, PPp_sF33, WFp_sF33, rk_n0 hp_2, Ks84, Fs84]); omega) | (unfold NBQ; (try simp only [reduceIte, and_true, true_and, and_false, false_and, and_self, Nat.reduceEqDiff, fz_sF17, rF_sF, rA_sF, rR_sF, tr_sF, rNMp_sF, PNp_sF, GS_F17, OP_F17, NR_F17, LI_F17, RG_l17, RG_r17, TPRp_sF17, WNp_sF17, VMp_sF17, KYp_sF17, PPp_sF17, WFp_sF17, CCp_sF17, fz_sF32, GS_F32, OP_F32, NR_F32, LI_F32, RG_l32, RG_r32, TPRp_sF32, WNp_sF32, VMp_sF32, KYp_sF32, PPp_sF32, WFp_sF32, fz_sF33, GS_F33, OP_F33, NR_F33, LI_F33, RG_l33, RG_r33, TPRp_sF33, WNp_sF33, VMp_sF33, KYp_sF33, PPp_sF33, WFp_sF33, rk_n0 hp_2, Ks84, Fs84]); omega) | (unfold FPZ; (try simp only [reduceIte, and_true, true_and, and_false, false_and, and_self, Nat.reduceEqDiff, fz_sF17, rF_sF, rA_sF, rR_sF, tr_sF, rNMp_sF, PNp_sF, GS_F17, OP_F17, NR_F17, LI_F17, RG_l17, RG_r17, TPRp_sF17, WNp_sF17, VMp_sF17, KYp_sF17, PPp_sF17, WFp_sF17, CCp_sF17, fz_sF32, GS_F32, OP_F32, NR_F32, LI_F32, RG_l32, RG_r32, TPRp_sF32, WNp_sF32, VMp_sF32, KYp_sF32, PPp_sF32, WFp_sF32, fz_sF33, GS_F33, OP_F33, NR_F33, LI_F33, RG_l33, RG_r33, TPRp_sF33, WNp_sF33, VMp_sF33, KYp_sF33, PPp_sF33, WFp_sF33, rk_n0 hp_2, Ks84, Fs84]); omega) | (unfold FQZ; (try simp only [reduceIte, and_true, true_and, and_false, false_and, and_self, Nat.reduceEqDiff, fz_sF17, rF_sF, rA_sF, rR_sF, tr_sF, rNMp_sF, PNp_sF, GS_F17, OP_F17, NR_F17, LI_F17, RG_l17, RG_r17, TPRp_sF17, WNp_sF17, VMp_sF17, KYp_sF17, PPp_sF17, WFp_sF17, CCp_sF17, fz_sF32, GS_F32, OP_F32, NR_F32, LI_F32, RG_l32, RG_r32, TPRp_sF32, WNp_sF32, VMp_sF32, KYp_sF32, PPp_sF32, WFp_sF32, fz_sF33, GS_F33, OP_F33, NR_F33, LI_F33, RG_l33, RG_r33, TPRp_sF33, WNp_sF33, VMp_sF33, KYp_sF33, PPp_sF33, WFp_sF33, rk_n0 hp_2, Ks84, Fs84]); omega) | omega | (have zz_ := fz_z (by assumption); omega) | (split <;> omega) | (exact TPqp.z (by simp only [rF_sF, Nat.reduceEqDiff, and_false, and_true, reduceIte])) | (exact WNp.z38) | (exact CCp.mk5 (by assumption) (by omega)) | (exact RG.rf) | (exact RG.tr0 RI_ R46) | (exact G46) | (exact hp_7 hp_8) | (exact fun _ => by assumption) | done))
  · refine ⟨(by (try simp only [Ks30, Fs30]); (all_goals (repeat' (first | with_reducible intro _ | with_reducible apply And.intro))); all_goals (first | assumption | trivial | (unfold NBP; (try simp only [Ks30, Fs30]); omega) | (unfold NBQ; (try simp only [Ks30, Fs30]); omega) | (unfold FPZ; (try simp only [Ks30, Fs30]); omega) | (unfold FQZ; (try simp only [Ks30, Fs30]); omega) | omega | (have zz_ := fz_z (by assumption); omega) | (split <;> omega) | (exact TPqp.z (by simp only [rF_sF, Nat.reduceEqDiff, and_false, and_true, reduceIte])) | (exact WNp.z38) | (exact CCp.mk5 (by assumption) (by omega)) | (exact RG.rf) | (exact RG.tr0 RI_ R46) | (exact G46) | (exact hp_7 hp_8) | (exact fun _ => by assumption) | done)), ?_⟩
    refine ⟨(by (try simp only [Ks30, Fs30]); (all_goals (repeat' (first | with_reducible intro _ | with_reducible apply And.intro))); all_goals (first | assumption | trivial | (unfold NBP; (try simp only [Ks30, Fs30]); omega) | (unfold NBQ; (try simp only [Ks30, Fs30]); omega) | (unfold FPZ; (try simp only [Ks30, Fs30]); omega) | (unfold FQZ; (try simp only [Ks30, Fs30]); omega) | omega | (have zz_ := fz_z (by assumption); omega) | (split <;> omega) | (exact TPqp.z (by simp only [rF_sF, Nat.reduceEqDiff, and_false, and_true, reduceIte])) | (exact WNp.z38) | (exact CCp.mk5 (by assumption) (by omega)) | (exact RG.rf) | (exact RG.tr0 RI_ R46) | (exact G46) | (exact hp_7 hp_8) | (exact fun _ => by assumption) | done)), ?_⟩
    intro hr_; unfold rng at hr_
    refine ⟨(by (try simp only [pre_X14_addByte_f, Ks30, Fs30]); (all_goals (repeat' (first | with_reducible intro _ | with_reducible apply And.intro))); all_goals (first | assumption | trivial | (unfold NBP; (try simp only [Ks30, Fs30]); omega) | (unfold NBQ; (try simp only [Ks30, Fs30]); omega) | (unfold FPZ; (try simp only [Ks30, Fs30]); omega) | (unfold FQZ; (try simp only [Ks30, Fs30]); omega) | omega | (have zz_ := fz_z (by assumption); omega) | (split <;> omega) | (exact TPqp.z (by simp only [rF_sF, Nat.reduceEqDiff, and_false, and_true, reduceIte])) | (exact WNp.z38) | (exact CCp.mk5 (by assumption) (by omega)) | (exact RG.rf) | (exact RG.tr0 RI_ R46) | (exact G46) | (exact hp_7 hp_8) | (exact fun _ => by assumption) | done)), ?_⟩
    intro s46 Ws46 e46_0 e46_1 e46_2 e46_3 e46_4 e46_5 e46_6 e46_7 e46_8 e46_9 e46_10 e46_11 e46_12 e46_13 e46_14 e46_15 e46_16 e46_17 e46_18 e46_19 e46_20 e46_21 e46_22 e46_23 e46_24 e46_25 e46_26 R46 q46
    unfold post_X14_addByte_f at q46
    obtain ⟨q46_1, q46_2⟩ := q46
    (try simp only [Ks30, Fs30, NBP, NBQ, FPZ, FQZ] at q46_1 q46_2 e46_0 e46_1 e46_2 e46_3 e46_4 e46_5 e46_6 e46_7 e46_8 e46_9 e46_10 e46_11 e46_12 e46_13 e46_14 e46_15 e46_16 e46_17 e46_18 e46_19 e46_20 e46_21 e46_22 e46_23 e46_24 e46_25 e46_26 R46)
    have Ks46 : rR s46 7 = rR σ 7 := by first | assumption | ((try simp only [rR_sF, rR_sA, rR_sT, rR_sL] at e46_0 e46_1 e46_2 e46_3 e46_4 e46_5 e46_6 e46_7 e46_8 e46_9 e46_10 e46_11 e46_12 e46_13 e46_14 e46_15 e46_16 e46_17 e46_18 e46_19 e46_20 e46_21 e46_22 e46_23 e46_24 e46_25 e46_26 R46); omega)
    have Fs46 : rR s46 15 = rR σ 15 := by first | assumption | ((try simp only [rR_sF, rR_sA, rR_sT, rR_sL] at e46_0 e46_1 e46_2 e46_3 e46_4 e46_5 e46_6 e46_7 e46_8 e46_9 e46_10 e46_11 e46_12 e46_13 e46_14 e46_15 e46_16 e46_17 e46_18 e46_19 e46_20 e46_21 e46_22 e46_23 e46_24 e46_25 e46_26 R46); omega)
    have rNMp_46 := e46_0 I30_14; clear e46_0
    clear e46_1
    have PNp_46 := e46_2 I30_15; clear e46_2
    have G46 : GS s46 (rR σ 7) g := GS.mv hp_2 I30_16 R46 (by omega) (by omega) (by omega)
    refine ⟨(by (try simp only [rng, Ks46, Fs46]); (all_goals (repeat' (first | with_reducible intro _ | with_reducible apply And.intro))); all_goals (first | assumption | trivial | (unfold NBP; (try simp only [Ks46, Fs46]); omega) | (unfold NBQ; (try simp only [Ks46, Fs46]); omega) | (unfold FPZ; (try simp only [Ks46, Fs46]); omega) | (unfold FQZ; (try simp only [Ks46, Fs46]); omega) | omega | (have zz_ := fz_z (by assumption); omega) | (split <;> omega) | (exact TPqp.z (by simp only [rF_sF, Nat.reduceEqDiff, and_false, and_true, reduceIte])) | (exact WNp.z38) | (exact CCp.mk5 (by assumption) (by omega)) | (exact RG.rf) | (exact RG.tr0 RI_ R46) | (exact G46) | (exact hp_7 hp_8) | (exact fun _ => by assumption) | done)), ?_⟩
    exact (by (try simp only [inv_X14_readFileSub_30, mu_X14_readFileSub_30, mu_X14_readFileSub_30, Ks46, Fs46]); (all_goals (repeat' (first | with_reducible intro _ | with_reducible apply And.intro))); all_goals (first | assumption | trivial | (unfold NBP; (try simp only [Ks46, Fs46]); omega) | (unfold NBQ; (try simp only [Ks46, Fs46]); omega) | (unfold FPZ; (try simp only [Ks46, Fs46]); omega) | (unfold FQZ; (try simp only [Ks46, Fs46]); omega) | omega | (have zz_ := fz_z (by assumption); omega) | (split <;> omega) | (exact TPqp.z (by simp only [rF_sF, Nat.reduceEqDiff, and_false, and_true, reduceIte])) | (exact WNp.z38) | (exact CCp.mk5 (by assumption) (by omega)) | (exact RG.rf) | (exact RG.tr0 RI_ R46) | (exact G46) | (exact hp_7 hp_8) | (exact fun _ => by assumption) | done))
set_option maxRecDepth 20000 in
set_option maxHeartbeats 20000000 in
theorem vX14_readFileSub_30m (σ : rS) (gg : Nat) (U : Int) (g : Nat → Int → Int) (hwf : rWF σ) (hp : pre_X14_readFileSub σ gg U g) : VC_X14_readFileSub_30m σ gg U g := by
  unfold pre_X14_readFileSub at hp
  obtain ⟨hp_1, hp_2, hp_3, hp_4, hp_5, hp_6, hp_7, hp_8, hp_9⟩ := hp
  subst hp_1
  have hF := hp_3
  unfold FPZ at hF
  have zr0 := fz_rng σ
  unfold VC_X14_readFileSub_30m
  (try simp only [inv_X14_readFileSub_30, mu_X14_readFileSub_30]); (all_goals (repeat' (first | with_reducible intro _ | with_reducible apply And.intro))); all_goals (first | assumption | omega | grind (splits := 20))
theorem wX14_readFileSub (l : Launch) (G : zG) (κ : Nat → Nat) (σ : rS) (gg : Nat) (U : Int) (g : Nat → Int → Int) (hwf : rWF σ) (Q : Int → rS → Prop) (h : VC_X14_readFileSub σ gg U g Q) (h_30 : VC_X14_readFileSub_30 σ gg U g Q) (h_30m : VC_X14_readFileSub_30m σ gg U g) : rMi l G κ yX14_readFileSub cX14_readFileSub 4 .int 461 18027 [.ref (κ 0)] σ (fun x s => rKeep 0x6c3f3021c00 0x4100001280 0x13c0c000000 0x3ee0000d7f 0 σ s ∧ Q x s) := by
  refine zMi.intro (by decide +kernel) (Nat.le_of_ble_eq_true rfl) (fun X hC hR => ?_)
  obtain ⟨g0, h⟩ := h
  refine z_aload_n hC (pc := 0) 0 dX14_readFileSub_0 rfl rfl ?_
  refine y_get hC (pc := 1) zf14 rOb_0 32 (v := iv (rF σ 0 32)) dX14_readFileSub_1 zw2499 (rv_i (Or.inl rfl) rfl) (kk := ?_)
  have h := h (hwf.f _ _)
  refine z_istore_n hC (pc := 4) (lv' := [(1, iv (rF σ 0 32)), (0, .ref (κ 0))]) dX14_readFileSub_4 rfl (by decide) rfl ?_
  refine z_aload_n hC (pc := 5) 1 dX14_readFileSub_5 rfl rfl ?_
  refine y_get hC (pc := 6) zf14 rOb_0 33 (v := iv (rF σ 0 33)) dX14_readFileSub_6 zw2500 (rv_i (Or.inl rfl) rfl) (kk := ?_)
  have h := h (hwf.f _ _)
  refine z_istore_n hC (pc := 9) (lv' := [(2, iv (rF σ 0 33)), (1, iv (rF σ 0 32)), (0, .ref (κ 0))]) dX14_readFileSub_9 rfl (by decide) rfl ?_
  refine z_aload_n hC (pc := 10) 2 dX14_readFileSub_10 rfl rfl ?_
  refine z_iconst hC (pc := 11) (v := Int32.ofInt (-1)) dX14_readFileSub_11 (by decide) ?_
  refine y_putI hC (pc := 12) zf14 rOb_0 32 (x := (-1)) dX14_readFileSub_12 zw2499 (Or.inl rfl) rfl rfl (kk := ?_)
  have W10 := hwf.sF (q := 0) (f := 32) (x := (-1)) (r_lit rfl)
  refine z_aload_n hC (pc := 15) 2 dX14_readFileSub_15 rfl rfl ?_
  refine z_iconst hC (pc := 16) (v := Int32.ofInt (-1)) dX14_readFileSub_16 (by decide) ?_
  refine y_putI hC (pc := 17) zf14 rOb_0 33 (x := (-1)) dX14_readFileSub_17 zw2500 (Or.inl rfl) rfl rfl (kk := ?_)
  have W11 := W10.sF (q := 0) (f := 33) (x := (-1)) (r_lit rfl)
  refine z_aload_n hC (pc := 20) 2 dX14_readFileSub_20 rfl rfl ?_
  refine z_iconst hC (pc := 21) (v := Int32.ofInt 0) dX14_readFileSub_21 (by decide) ?_
  refine y_putI hC (pc := 22) zf14 rOb_0 28 (x := 0) dX14_readFileSub_22 zw2495 (Or.inl rfl) rfl rfl (kk := ?_)
  have W12 := W11.sF (q := 0) (f := 28) (x := 0) (r_lit rfl)
  refine z_aload_n hC (pc := 25) 2 dX14_readFileSub_25 rfl rfl ?_
  refine y_get hC (pc := 26) zf14 rOb_0 17 (v := iv (rF σ 0 17)) dX14_readFileSub_26 zw2484 (rv_i (Or.inl rfl) ((F_sF_ne (by decide)).trans ((F_sF_ne (by decide)).trans ((F_sF_ne (by decide)).trans rfl)))) (kk := ?_)
  have h := h (hwf.f _ _)
  refine z_istore_n hC (pc := 29) (lv' := [(3, iv (rF σ 0 17)), (2, iv (rF σ 0 33)), (1, iv (rF σ 0 32)), (0, .ref (κ 0))]) dX14_readFileSub_29 rfl (by decide) rfl ?_
  have j30 : ∀ (d30 : Nat), ∀ (s30 : rS) (y30_1 : Int) (y30_2 : Int) (y30_3 : Int), rWF s30 → rng y30_1 → rng y30_2 → rng y30_3 → rKeep 0x6c3f3021c00 0x4100001280 0x13c0c000000 0x3ee0000d7f 0 σ s30 → inv_X14_readFileSub_30 σ gg U g s30 y30_1 y30_2 y30_3 → (mu_X14_readFileSub_30 σ gg U g s30 y30_1 y30_2 y30_3) ≤ d30 → zS X G 4 (rW G κ s30) [(0, .ref (κ 0)), (1, iv y30_1), (2, iv y30_2), (3, iv y30_3)] 0 0 30 [] := by
    intro d30
    induction d30 with
    | zero =>
      intro s30 y30_1 y30_2 y30_3 Ws30 hy30_1 hy30_2 hy30_3 kJ hI hmu
      exact absurd hmu (by have := h_30m  s30 y30_1 y30_2 y30_3 Ws30 hy30_1 hy30_2 hy30_3 (kJ.R rfl) (kJ.R rfl) (kJ.F rfl) (kJ.F rfl) (kJ.F rfl) hI; omega)
    | succ d30 ih30 =>
      intro s30 y30_1 y30_2 y30_3 Ws30 hy30_1 hy30_2 hy30_3 kJ hI hmu30
      have h := h_30  s30 y30_1 y30_2 y30_3 Ws30 hy30_1 hy30_2 hy30_3 (kJ.R rfl) (kJ.R rfl) (kJ.F rfl) (kJ.F rfl) (kJ.F rfl) hI
      refine z_iload_n hC (pc := 30) 3 dX14_readFileSub_30 rfl rfl ?_
      refine z_aload_n hC (pc := 31) 0 dX14_readFileSub_31 rfl rfl ?_
      refine y_get hC (pc := 32) zf14 rOb_0 16 (v := iv (rF s30 0 16)) dX14_readFileSub_32 zw2483 (rv_i (Or.inl rfl) rfl) (kk := ?_)
      have h := h (Ws30.f _ _)
      obtain ⟨hT, hF⟩ := h
      refine y_icmp_ge hC (pc := 35) 55 hy30_3 (Ws30.f _ _) dX14_readFileSub_35 (by decide) (fun c => ?_) (fun c => ?_)
      · have h := hT c
        refine z_aload_n hC (pc := 55) 0 dX14_readFileSub_55 rfl rfl ?_
        refine z_aload_n hC (pc := 56) 0 dX14_readFileSub_56 rfl rfl ?_
        refine y_get hC (pc := 57) zf14 rOb_0 16 (v := iv (rF s30 0 16)) dX14_readFileSub_57 zw2483 (rv_i (Or.inl rfl) rfl) (kk := ?_)
        refine y_putI hC (pc := 60) zf14 rOb_0 30 (x := (rF s30 0 16)) dX14_readFileSub_60 zw2497 (Or.inl rfl) rfl rfl (kk := ?_)
        have W13 := Ws30.sF (q := 0) (f := 30) (x := (rF s30 0 16)) (Ws30.f _ _)
        refine z_aload_n hC (pc := 63) 0 dX14_readFileSub_63 rfl rfl ?_
        refine z_iconst hC (pc := 64) (v := Int32.ofInt 0) dX14_readFileSub_64 (by decide) ?_
        refine y_putI hC (pc := 65) zf14 rOb_0 29 (x := 0) dX14_readFileSub_65 zw2496 (Or.inl rfl) rfl rfl (kk := ?_)
        have W14 := W13.sF (q := 0) (f := 29) (x := 0) (r_lit rfl)
        refine z_aload_n hC (pc := 68) 0 dX14_readFileSub_68 rfl rfl ?_
        refine z_iconst hC (pc := 69) (v := Int32.ofInt 0) dX14_readFileSub_69 (by decide) ?_
        refine y_putI hC (pc := 70) zf14 rOb_0 31 (x := 0) dX14_readFileSub_70 zw2498 (Or.inl rfl) rfl rfl (kk := ?_)
        have W15 := W14.sF (q := 0) (f := 31) (x := 0) (r_lit rfl)
        refine z_aload_n hC (pc := 73) 0 dX14_readFileSub_73 rfl rfl ?_
        refine z_iconst hC (pc := 74) (v := Int32.ofInt 0) dX14_readFileSub_74 (by decide) ?_
        refine y_putI hC (pc := 75) zf14 rOb_0 38 (x := 0) dX14_readFileSub_75 zw2505 (Or.inl rfl) rfl rfl (kk := ?_)
        have W16 := W15.sF (q := 0) (f := 38) (x := 0) (r_lit rfl)
        refine z_aload_n hC (pc := 78) 0 dX14_readFileSub_78 rfl rfl ?_
        refine z_iconst hC (pc := 79) (v := Int32.ofInt 0) dX14_readFileSub_79 (by decide) ?_
        refine y_putI hC (pc := 80) zf14 rOb_0 39 (x := 0) dX14_readFileSub_80 zw2506 (Or.inl rfl) rfl rfl (kk := ?_)
        have W17 := W16.sF (q := 0) (f := 39) (x := 0) (r_lit rfl)
        refine z_aload_n hC (pc := 83) 0 dX14_readFileSub_83 rfl rfl ?_
        obtain ⟨g18, h⟩ := h
        obtain ⟨p19, h⟩ := h
        obtain ⟨p20, h⟩ := h
        refine y_callVi hC (pc := 84) (As := []) (kkX14_readSub l G κ (sF (sF (sF (sF (sF s30 0 30 (rF s30 0 16)) 0 29 0) 0 31 0) 0 38 0) 0 39 0) gg g18 W17  p19 p20) dmX14_readSub zf14 rOb_0 dX14_readFileSub_84 zw3222 rfl rfl (Nat.le_of_ble_eq_true rfl) (Nat.le_of_ble_eq_true rfl) (Nat.le_of_ble_eq_true rfl) (Nat.le_of_ble_eq_true rfl) (Nat.le_of_ble_eq_true rfl) (kk := fun v84 s84 hv84 Ws84 qs84 => ?_)
        have h := h v84 s84 hv84 Ws84 (CCp.keep qs84.1 rfl rfl rfl rfl rfl rfl rfl) (qs84.1.R rfl) (qs84.1.R rfl) (qs84.1.F rfl) (qs84.1.F rfl) (qs84.1.F rfl) (qs84.1.F rfl) (qs84.1.F rfl) (qs84.1.F rfl) (qs84.1.F rfl) (qs84.1.F rfl) (fun i => qs84.1.A (f := 26) (by decide) rfl) (fun i => qs84.1.A (f := 27) (by decide) rfl) qs84.2
        refine z_istore_n hC (pc := 87) (lv' := [(3, iv v84), (0, .ref (κ 0)), (1, iv y30_1), (2, iv y30_2)]) dX14_readFileSub_87 rfl (by decide) rfl ?_
        refine z_aload_n hC (pc := 88) 1 dX14_readFileSub_88 rfl rfl ?_
        refine y_get hC (pc := 89) zf14 rOb_0 10 (v := iv (rF s84 0 10)) dX14_readFileSub_89 zw2478 (rv_i (Or.inl rfl) rfl) (kk := ?_)
        have h := h (Ws84.f _ _)
        obtain ⟨hT, hF⟩ := h
        refine y_if_ne hC (pc := 92) 108 (Ws84.f _ _) dX14_readFileSub_92 (by decide) (fun c => ?_) (fun c => ?_)
        · have h := hT c
          refine z_aload_n hC (pc := 108) 1 dX14_readFileSub_108 rfl rfl ?_
          refine z_iload_n hC (pc := 109) 2 dX14_readFileSub_109 rfl rfl ?_
          refine y_putI hC (pc := 110) zf14 rOb_0 32 (x := y30_1) dX14_readFileSub_110 zw2499 (Or.inl rfl) rfl rfl (kk := ?_)
          have W21 := Ws84.sF (q := 0) (f := 32) (x := y30_1) hy30_1
          refine z_aload_n hC (pc := 113) 1 dX14_readFileSub_113 rfl rfl ?_
          refine z_iload_n hC (pc := 114) 3 dX14_readFileSub_114 rfl rfl ?_
          refine y_putI hC (pc := 115) zf14 rOb_0 33 (x := y30_2) dX14_readFileSub_115 zw2500 (Or.inl rfl) rfl rfl (kk := ?_)
          have W22 := W21.sF (q := 0) (f := 33) (x := y30_2) hy30_2
          refine z_iload_n hC (pc := 118) 0 dX14_readFileSub_118 rfl rfl ?_
          exact y_reti hR dX14_readFileSub_119 rfl hv84 W22 (Nat.le_of_ble_eq_true rfl) (Nat.le_of_ble_eq_true rfl) ⟨(rKeep.tr (rKeep.tr (rKeep.tr (rKeep.tr (rKeep.tr (rKeep.tr (rKeep.tr (rKeep.tr (rKeep.tr rKeep.rf kJ rfl rfl rfl rfl rfl) (rKeep.sF0 (f := 30)) rfl rfl rfl rfl rfl) (rKeep.sF0 (f := 29)) rfl rfl rfl rfl rfl) (rKeep.sF0 (f := 31)) rfl rfl rfl rfl rfl) (rKeep.sF0 (f := 38)) rfl rfl rfl rfl rfl) (rKeep.sF0 (f := 39)) rfl rfl rfl rfl rfl) qs84.1 rfl rfl rfl rfl rfl) (rKeep.sF0 (f := 32)) rfl rfl rfl rfl rfl) (rKeep.sF0 (f := 33)) rfl rfl rfl rfl rfl), h⟩
        · have h := hF c
          refine z_aload_n hC (pc := 95) 1 dX14_readFileSub_95 rfl rfl ?_
          refine z_dup hC (pc := 96) dX14_readFileSub_96 rfl ?_
          refine y_get hC (pc := 97) zf14 rOb_0 17 (v := iv (rF s84 0 17)) dX14_readFileSub_97 zw2484 (rv_i (Or.inl rfl) rfl) (kk := ?_)
          have h := h (Ws84.f _ _)
          refine z_aload_n hC (pc := 100) 1 dX14_readFileSub_100 rfl rfl ?_
          refine y_get hC (pc := 101) zf14 rOb_0 29 (v := iv (rF s84 0 29)) dX14_readFileSub_101 zw2496 (rv_i (Or.inl rfl) rfl) (kk := ?_)
          have h := h (Ws84.f _ _)
          refine y_iadd hC (pc := 104) (v := ((rF s84 0 17) + (rF s84 0 29))) dX14_readFileSub_104 rfl ?_
          obtain ⟨r23, h⟩ := h
          refine y_putI hC (pc := 105) zf14 rOb_0 17 (x := ((rF s84 0 17) + (rF s84 0 29))) dX14_readFileSub_105 zw2484 (Or.inl rfl) rfl rfl (kk := ?_)
          have W24 := Ws84.sF (q := 0) (f := 17) (x := ((rF s84 0 17) + (rF s84 0 29))) r23
          refine z_aload_n hC (pc := 108) 1 dX14_readFileSub_108 rfl rfl ?_
          refine z_iload_n hC (pc := 109) 2 dX14_readFileSub_109 rfl rfl ?_
          refine y_putI hC (pc := 110) zf14 rOb_0 32 (x := y30_1) dX14_readFileSub_110 zw2499 (Or.inl rfl) rfl rfl (kk := ?_)
          have W25 := W24.sF (q := 0) (f := 32) (x := y30_1) hy30_1
          refine z_aload_n hC (pc := 113) 1 dX14_readFileSub_113 rfl rfl ?_
          refine z_iload_n hC (pc := 114) 3 dX14_readFileSub_114 rfl rfl ?_
          refine y_putI hC (pc := 115) zf14 rOb_0 33 (x := y30_2) dX14_readFileSub_115 zw2500 (Or.inl rfl) rfl rfl (kk := ?_)
          have W26 := W25.sF (q := 0) (f := 33) (x := y30_2) hy30_2
          refine z_iload_n hC (pc := 118) 0 dX14_readFileSub_118 rfl rfl ?_
          exact y_reti hR dX14_readFileSub_119 rfl hv84 W26 (Nat.le_of_ble_eq_true rfl) (Nat.le_of_ble_eq_true rfl) ⟨(rKeep.tr (rKeep.tr (rKeep.tr (rKeep.tr (rKeep.tr (rKeep.tr (rKeep.tr (rKeep.tr (rKeep.tr (rKeep.tr rKeep.rf kJ rfl rfl rfl rfl rfl) (rKeep.sF0 (f := 30)) rfl rfl rfl rfl rfl) (rKeep.sF0 (f := 29)) rfl rfl rfl rfl rfl) (rKeep.sF0 (f := 31)) rfl rfl rfl rfl rfl) (rKeep.sF0 (f := 38)) rfl rfl rfl rfl rfl) (rKeep.sF0 (f := 39)) rfl rfl rfl rfl rfl) qs84.1 rfl rfl rfl rfl rfl) (rKeep.sF0 (f := 17)) rfl rfl rfl rfl rfl) (rKeep.sF0 (f := 32)) rfl rfl rfl rfl rfl) (rKeep.sF0 (f := 33)) rfl rfl rfl rfl rfl), h⟩
      · have h := hF c
        refine z_aload_n hC (pc := 38) 0 dX14_readFileSub_38 rfl rfl ?_
        refine z_aload_n hC (pc := 39) 0 dX14_readFileSub_39 rfl rfl ?_
        obtain ⟨g27, h⟩ := h
        refine y_get hC (pc := 40) zf14 rOb_0 15 (v := .ref (κ (rR s30 15))) dX14_readFileSub_40 zw2482 (rv_b rfl rfl g27) (kk := ?_)
        refine z_iload_n hC (pc := 43) 3 dX14_readFileSub_43 rfl rfl ?_
        obtain ⟨b28, h⟩ := h
        refine y_bald hC (pc := 44) (rAr_f g27) dX14_readFileSub_44 b28 (v := (rA s30 (rR s30 15) y30_3)) rfl (kk := ?_)
        have h := h (Ws30.a _ _)
        refine z_iload_n hC (pc := 45) 3 dX14_readFileSub_45 rfl rfl ?_
        obtain ⟨p29, h⟩ := h
        refine y_callVv hC (pc := 46) (As := [iv (rA s30 (rR s30 15) y30_3), iv y30_3]) (kX14_addByte_f l G κ s30 (rA s30 (rR s30 15) y30_3) y30_3 Ws30 (Ws30.a _ _) hy30_3 p29) dmX14_addByte zf14 rOb_0 dX14_readFileSub_46 zw3087 rfl rfl (Nat.le_of_ble_eq_true rfl) (Nat.le_of_ble_eq_true rfl) (Nat.le_of_ble_eq_true rfl) (Nat.le_of_ble_eq_true rfl) (Nat.le_of_ble_eq_true rfl) (kk := fun s46 Ws46 qs46 => ?_)
        have h := h s46 Ws46 (rNMp.keep qs46.1 rfl rfl rfl rfl rfl) (WNp.keep qs46.1 rfl rfl rfl rfl rfl) (PNp.keep qs46.1 rfl rfl rfl rfl rfl) (qs46.1.R rfl) (qs46.1.R rfl) (qs46.1.F rfl) (qs46.1.F rfl) (qs46.1.F rfl) (qs46.1.F rfl) (qs46.1.F rfl) (qs46.1.F rfl) (qs46.1.F rfl) (qs46.1.F rfl) (qs46.1.F rfl) (qs46.1.F rfl) (qs46.1.F rfl) (fun i => qs46.1.A (f := 34) (by decide) rfl) (fun i => qs46.1.A (f := 35) (by decide) rfl) (fun i => qs46.1.A (f := 40) (by decide) rfl) (qs46.1.FG g0 rfl) (qs46.1.FG g0 rfl) (qs46.1.FG g0 rfl) (qs46.1.FG g0 rfl) (qs46.1.FG g0 rfl) (fun i => qs46.1.AG (f := 10) g0 (by decide) rfl) (fun i => qs46.1.AG (f := 11) g0 (by decide) rfl) (fz_keep qs46.1 rfl) (RG.keep (c0 := 0) qs46.1 rfl rfl rfl rfl rfl rfl rfl rfl rfl rfl rfl rfl rfl rfl rfl rfl rfl rfl) qs46.2
        refine y_iinc hC (pc := 49) (v := (y30_3 + 1)) (lv' := [(3, iv (y30_3 + 1)), (0, .ref (κ 0)), (1, iv y30_1), (2, iv y30_2)]) 3 dX14_readFileSub_49 rfl rfl (by decide) rfl ?_
        refine z_goto hC (pc := 52) 30 dX14_readFileSub_52 (by decide) ?_
        refine z_lvs [1, 2, 3, 0] rfl ?_
        obtain ⟨r30, h⟩ := h
        obtain ⟨hI, hm⟩ := h
        exact ih30 s46 y30_1 y30_2 (y30_3 + 1) Ws46 hy30_1 hy30_2 r30 (rKeep.tr (rKeep.tr rKeep.rf kJ rfl rfl rfl rfl rfl) qs46.1 rfl rfl rfl rfl rfl) hI (by omega)
  refine z_lvs [3, 2, 1, 0] rfl ?_
  exact j30 _ (sF (sF (sF σ 0 32 (-1)) 0 33 (-1)) 0 28 0) (rF σ 0 32) (rF σ 0 33) (rF σ 0 17) W12 (hwf.f _ _) (hwf.f _ _) (hwf.f _ _) (rKeep.tr (rKeep.tr (rKeep.tr rKeep.rf (rKeep.sF0 (f := 32)) rfl rfl rfl rfl rfl) (rKeep.sF0 (f := 33)) rfl rfl rfl rfl rfl) (rKeep.sF0 (f := 28)) rfl rfl rfl rfl rfl) h (Nat.le_refl _)
theorem kX14_readFileSub (l : Launch) (G : zG) (κ : Nat → Nat) (σ : rS) (gg : Nat) (U : Int) (g : Nat → Int → Int) (hwf : rWF σ) (hp : pre_X14_readFileSub σ gg U g) : rMi l G κ yX14_readFileSub cX14_readFileSub 4 .int 461 18027 [.ref (κ 0)] σ (fun x s => rKeep 0x6c3f3021c00 0x4100001280 0x13c0c000000 0x3ee0000d7f 0 σ s ∧ post_X14_readFileSub σ gg U g x s) := wX14_readFileSub l G κ σ gg U g hwf (post_X14_readFileSub σ gg U g) (vX14_readFileSub σ gg U g hwf hp) (vX14_readFileSub_30 σ gg U g hwf hp) (vX14_readFileSub_30m σ gg U g hwf hp)
