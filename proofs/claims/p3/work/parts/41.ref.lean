theorem rSt.rng {G : zG} {a n : Nat} (h : rSt G a n) : rng (n : Int) := ⟨by omega, by have := h.1; omega⟩
theorem r_255 {x : Int} (h : 0 ≤ x ∧ x ≤ 255) : rng x := ⟨by omega, by omega⟩
theorem rk_ff {k k2 f f' : Nat} (h : rgk k) (h2 : rgk k2) (hf : decide (f < 1000) = true) (hf' : decide (f' < 1000) = true) (hn : decide (f = f') = false) : 1000 * (k + 1) + f ≠ 1000 * (k2 + 1) + f' := by
  have a := of_decide_eq_true hf
  have b := of_decide_eq_true hf'
  have c := of_decide_eq_false hn
  omega
theorem rk_mg {k f p : Nat} (h : rgk k) (hp : decide (p < 2000) = true) : p ≠ 1000 * (k + 1) + f := by
  have := of_decide_eq_true hp
  rcases h with rfl | rfl | rfl <;> omega
theorem rk_gm {k f p : Nat} (h : rgk k) (hp : decide (p < 2000) = true) : 1000 * (k + 1) + f ≠ p := fun e => rk_mg h hp e.symm
theorem rk_0n {k : Nat} (h : rgk k) : (0 : Nat) ≠ k := by rcases h with rfl | rfl | rfl <;> decide
theorem rk_n0 {k : Nat} (h : rgk k) : k ≠ 0 := by rcases h with rfl | rfl | rfl <;> decide
/-- names lie in the bytes -/
def rNM (σ : rS) (k : Nat) : Prop := 0 ≤ rF σ k 12 ∧ 0 ≤ rF σ k 9 ∧ ∀ j, 0 ≤ j → j < rF σ k 12 → 0 ≤ rA σ (1000 * (k + 1) + 10) j ∧ 0 ≤ rA σ (1000 * (k + 1) + 11) j ∧ rA σ (1000 * (k + 1) + 10) j + rA σ (1000 * (k + 1) + 11) j ≤ rF σ k 9
theorem rNM_sF0 {s : rS} {f k : Nat} {x : Int} (hk : rgk k) (h : rNM s k) : rNM (sF s 0 f x) k := by
  have e : ∀ g, rF (sF s 0 f x) k g = rF s k g := fun g => F_sF_nq (rk_n0 hk)
  unfold rNM at *
  simp only [e, rA_sF]
  exact h
def rNMp (σ : rS) : Prop := rgk (rR σ 7) ∧ rNM σ (rR σ 7)
theorem rNMp.keep {a b c d e : Nat} {s t : rS} (h : rKeep a b c d e s t) (hG12 : b.testBit 12 = false) (hG9 : b.testBit 9 = false) (hAG10 : d.testBit 10 = false) (hAG11 : d.testBit 11 = false) (hR7 : e.testBit 7 = false) (hs : rNMp s) : rNMp t := by
  have ehR7 := h.R (f := 7) hR7
  have hk : rgk (rR s 7) := hs.1
  have ehG12 := h.FG (f := 12) hk hG12
  have ehG9 := h.FG (f := 9) hk hG9
  have ehAG10 : ∀ i, rA t (1000 * (rR s 7 + 1) + 10) i = rA s (1000 * (rR s 7 + 1) + 10) i := fun i => h.AG (f := 10) hk (by decide) hAG10
  have ehAG11 : ∀ i, rA t (1000 * (rR s 7 + 1) + 11) i = rA s (1000 * (rR s 7 + 1) + 11) i := fun i => h.AG (f := 11) hk (by decide) hAG11
  unfold rNMp rNM at *
  (try simp only [Nat.reduceAdd] at *)
  simp only [ehR7, ehG12, ehG9, ehAG10, ehAG11] at *
  exact hs
theorem rNMp_sL {σ : rS} {p : Nat} {i : Int} {x : Int64} : rNMp (sL σ p i x) = rNMp σ := rfl
def TPRp (σ : rS) : Prop := 0 ≤ (rF σ 0 30) ∧ (rF σ 0 30) ≤ 4000 ∧ (∀ i, 0 ≤ i → i < (rF σ 0 28) → 0 ≤ (rA σ 1027 (i)) ∧ (rA σ 1027 (i)) ≤ 4000)
theorem TPRp.keep {a b c d e : Nat} {s t : rS} (h : rKeep a b c d e s t) (hF28 : a.testBit 28 = false) (hF30 : a.testBit 30 = false) (hA27 : c.testBit 27 = false) (hs : TPRp s) : TPRp t := by
  have ehF28 := h.F (f := 28) hF28
  have ehF30 := h.F (f := 30) hF30
  have ehA27 : ∀ i, rA t (1000 + 27) i = rA s (1000 + 27) i := fun i => h.A (f := 27) (by decide) hA27
  unfold TPRp at *
  (try simp only [Nat.reduceAdd] at *)
  simp only [ehF28, ehF30, ehA27] at *
  exact hs
theorem TPRp_sL {σ : rS} {p : Nat} {i : Int} {x : Int64} : TPRp (sL σ p i x) = TPRp σ := rfl
theorem TPRp_sF {σ : rS} {q f : Nat} {x : Int} (h28 : f ≠ 28) (h30 : f ≠ 30) : TPRp (sF σ q f x) = TPRp σ := by
  simp only [TPRp, rA_sF, F_sF_ne (Ne.symm h28), F_sF_ne (Ne.symm h30)]
theorem TPRp_sA {σ : rS} {p : Nat} {i x : Int} (h27 : p ≠ 1027) : TPRp (sA σ p i x) = TPRp σ := by
  simp only [TPRp, rF_sA, A_sA_ne (Ne.symm h27)]
theorem TPRp_sF0 {σ : rS} {q : Nat} {x : Int} : TPRp (sF σ q 0 x) = TPRp σ := TPRp_sF (by decide) (by decide)
theorem TPRp_sA1 {σ : rS} {i x : Int} : TPRp (sA σ 1001 i x) = TPRp σ := TPRp_sA (by decide)
theorem TPRp_sA2 {σ : rS} {i x : Int} : TPRp (sA σ 1002 i x) = TPRp σ := TPRp_sA (by decide)
theorem TPRp_sF3 {σ : rS} {q : Nat} {x : Int} : TPRp (sF σ q 3 x) = TPRp σ := TPRp_sF (by decide) (by decide)
theorem TPRp_sA5 {σ : rS} {i x : Int} : TPRp (sA σ 1005 i x) = TPRp σ := TPRp_sA (by decide)
theorem TPRp_sF10 {σ : rS} {q : Nat} {x : Int} : TPRp (sF σ q 10 x) = TPRp σ := TPRp_sF (by decide) (by decide)
theorem TPRp_sF11 {σ : rS} {q : Nat} {x : Int} : TPRp (sF σ q 11 x) = TPRp σ := TPRp_sF (by decide) (by decide)
theorem TPRp_sF12 {σ : rS} {q : Nat} {x : Int} : TPRp (sF σ q 12 x) = TPRp σ := TPRp_sF (by decide) (by decide)
theorem TPRp_sF13 {σ : rS} {q : Nat} {x : Int} : TPRp (sF σ q 13 x) = TPRp σ := TPRp_sF (by decide) (by decide)
theorem TPRp_sF14 {σ : rS} {q : Nat} {x : Int} : TPRp (sF σ q 14 x) = TPRp σ := TPRp_sF (by decide) (by decide)
theorem TPRp_sF16 {σ : rS} {q : Nat} {x : Int} : TPRp (sF σ q 16 x) = TPRp σ := TPRp_sF (by decide) (by decide)
theorem TPRp_sF17 {σ : rS} {q : Nat} {x : Int} : TPRp (sF σ q 17 x) = TPRp σ := TPRp_sF (by decide) (by decide)
theorem TPRp_sF18 {σ : rS} {q : Nat} {x : Int} : TPRp (sF σ q 18 x) = TPRp σ := TPRp_sF (by decide) (by decide)
theorem TPRp_sF19 {σ : rS} {q : Nat} {x : Int} : TPRp (sF σ q 19 x) = TPRp σ := TPRp_sF (by decide) (by decide)
theorem TPRp_sA20 {σ : rS} {i x : Int} : TPRp (sA σ 1020 i x) = TPRp σ := TPRp_sA (by decide)
theorem TPRp_sF21 {σ : rS} {q : Nat} {x : Int} : TPRp (sF σ q 21 x) = TPRp σ := TPRp_sF (by decide) (by decide)
theorem TPRp_sF22 {σ : rS} {q : Nat} {x : Int} : TPRp (sF σ q 22 x) = TPRp σ := TPRp_sF (by decide) (by decide)
theorem TPRp_sF23 {σ : rS} {q : Nat} {x : Int} : TPRp (sF σ q 23 x) = TPRp σ := TPRp_sF (by decide) (by decide)
theorem TPRp_sF24 {σ : rS} {q : Nat} {x : Int} : TPRp (sF σ q 24 x) = TPRp σ := TPRp_sF (by decide) (by decide)
theorem TPRp_sF25 {σ : rS} {q : Nat} {x : Int} : TPRp (sF σ q 25 x) = TPRp σ := TPRp_sF (by decide) (by decide)
theorem TPRp_sA26 {σ : rS} {i x : Int} : TPRp (sA σ 1026 i x) = TPRp σ := TPRp_sA (by decide)
theorem TPRp_sF29 {σ : rS} {q : Nat} {x : Int} : TPRp (sF σ q 29 x) = TPRp σ := TPRp_sF (by decide) (by decide)
theorem TPRp_sF31 {σ : rS} {q : Nat} {x : Int} : TPRp (sF σ q 31 x) = TPRp σ := TPRp_sF (by decide) (by decide)
theorem TPRp_sF32 {σ : rS} {q : Nat} {x : Int} : TPRp (sF σ q 32 x) = TPRp σ := TPRp_sF (by decide) (by decide)
theorem TPRp_sF33 {σ : rS} {q : Nat} {x : Int} : TPRp (sF σ q 33 x) = TPRp σ := TPRp_sF (by decide) (by decide)
theorem TPRp_sA34 {σ : rS} {i x : Int} : TPRp (sA σ 1034 i x) = TPRp σ := TPRp_sA (by decide)
theorem TPRp_sA35 {σ : rS} {i x : Int} : TPRp (sA σ 1035 i x) = TPRp σ := TPRp_sA (by decide)
theorem TPRp_sA36 {σ : rS} {i x : Int} : TPRp (sA σ 1036 i x) = TPRp σ := TPRp_sA (by decide)
theorem TPRp_sA37 {σ : rS} {i x : Int} : TPRp (sA σ 1037 i x) = TPRp σ := TPRp_sA (by decide)
theorem TPRp_sF38 {σ : rS} {q : Nat} {x : Int} : TPRp (sF σ q 38 x) = TPRp σ := TPRp_sF (by decide) (by decide)
theorem TPRp_sF39 {σ : rS} {q : Nat} {x : Int} : TPRp (sF σ q 39 x) = TPRp σ := TPRp_sF (by decide) (by decide)
theorem TPRp_sA40 {σ : rS} {i x : Int} : TPRp (sA σ 1040 i x) = TPRp σ := TPRp_sA (by decide)
theorem TPRp_sF41 {σ : rS} {q : Nat} {x : Int} : TPRp (sF σ q 41 x) = TPRp σ := TPRp_sF (by decide) (by decide)
theorem TPRp_sF42 {σ : rS} {q : Nat} {x : Int} : TPRp (sF σ q 42 x) = TPRp σ := TPRp_sF (by decide) (by decide)
theorem TPRp_sF43 {σ : rS} {q : Nat} {x : Int} : TPRp (sF σ q 43 x) = TPRp σ := TPRp_sF (by decide) (by decide)
theorem TPRp_sF44 {σ : rS} {q : Nat} {x : Int} : TPRp (sF σ q 44 x) = TPRp σ := TPRp_sF (by decide) (by decide)
theorem TPRp_sF45 {σ : rS} {q : Nat} {x : Int} : TPRp (sF σ q 45 x) = TPRp σ := TPRp_sF (by decide) (by decide)
theorem TPRp_sA46 {σ : rS} {i x : Int} : TPRp (sA σ 1046 i x) = TPRp σ := TPRp_sA (by decide)
theorem TPRp_sA47 {σ : rS} {i x : Int} : TPRp (sA σ 1047 i x) = TPRp σ := TPRp_sA (by decide)
theorem TPRp_sA48 {σ : rS} {i x : Int} : TPRp (sA σ 1048 i x) = TPRp σ := TPRp_sA (by decide)
theorem TPRp_sA49 {σ : rS} {i x : Int} : TPRp (sA σ 1049 i x) = TPRp σ := TPRp_sA (by decide)
theorem TPRp_sA50 {σ : rS} {i x : Int} : TPRp (sA σ 1050 i x) = TPRp σ := TPRp_sA (by decide)
theorem TPRp_sA51 {σ : rS} {i x : Int} : TPRp (sA σ 1051 i x) = TPRp σ := TPRp_sA (by decide)
theorem TPRp_sA52 {σ : rS} {i x : Int} : TPRp (sA σ 1052 i x) = TPRp σ := TPRp_sA (by decide)
theorem TPRp_sA53 {σ : rS} {i x : Int} : TPRp (sA σ 1053 i x) = TPRp σ := TPRp_sA (by decide)
theorem TPRp_sA54 {σ : rS} {i x : Int} : TPRp (sA σ 1054 i x) = TPRp σ := TPRp_sA (by decide)
theorem TPRp_sA55 {σ : rS} {i x : Int} : TPRp (sA σ 1055 i x) = TPRp σ := TPRp_sA (by decide)
theorem TPRp_sA56 {σ : rS} {i x : Int} : TPRp (sA σ 1056 i x) = TPRp σ := TPRp_sA (by decide)
theorem TPRp_sA57 {σ : rS} {i x : Int} : TPRp (sA σ 1057 i x) = TPRp σ := TPRp_sA (by decide)
theorem TPRp_sA58 {σ : rS} {i x : Int} : TPRp (sA σ 1058 i x) = TPRp σ := TPRp_sA (by decide)
theorem TPRp_sA59 {σ : rS} {i x : Int} : TPRp (sA σ 1059 i x) = TPRp σ := TPRp_sA (by decide)
theorem TPRp_sF60 {σ : rS} {q : Nat} {x : Int} : TPRp (sF σ q 60 x) = TPRp σ := TPRp_sF (by decide) (by decide)
theorem TPRp_sA61 {σ : rS} {i x : Int} : TPRp (sA σ 1061 i x) = TPRp σ := TPRp_sA (by decide)
theorem TPRp_sA62 {σ : rS} {i x : Int} : TPRp (sA σ 1062 i x) = TPRp σ := TPRp_sA (by decide)
theorem TPRp_sA63 {σ : rS} {i x : Int} : TPRp (sA σ 1063 i x) = TPRp σ := TPRp_sA (by decide)
theorem TPRp_sA64 {σ : rS} {i x : Int} : TPRp (sA σ 1064 i x) = TPRp σ := TPRp_sA (by decide)
theorem TPRp_sF65 {σ : rS} {q : Nat} {x : Int} : TPRp (sF σ q 65 x) = TPRp σ := TPRp_sF (by decide) (by decide)
theorem TPRp_sF66 {σ : rS} {q : Nat} {x : Int} : TPRp (sF σ q 66 x) = TPRp σ := TPRp_sF (by decide) (by decide)
theorem TPRp_sF67 {σ : rS} {q : Nat} {x : Int} : TPRp (sF σ q 67 x) = TPRp σ := TPRp_sF (by decide) (by decide)
theorem TPRp_sF68 {σ : rS} {q : Nat} {x : Int} : TPRp (sF σ q 68 x) = TPRp σ := TPRp_sF (by decide) (by decide)
theorem TPRp_sA69 {σ : rS} {i x : Int} : TPRp (sA σ 1069 i x) = TPRp σ := TPRp_sA (by decide)
theorem TPRp_sF70 {σ : rS} {q : Nat} {x : Int} : TPRp (sF σ q 70 x) = TPRp σ := TPRp_sF (by decide) (by decide)
theorem TPRp_sF71 {σ : rS} {q : Nat} {x : Int} : TPRp (sF σ q 71 x) = TPRp σ := TPRp_sF (by decide) (by decide)
theorem TPRp_sF72 {σ : rS} {q : Nat} {x : Int} : TPRp (sF σ q 72 x) = TPRp σ := TPRp_sF (by decide) (by decide)
theorem TPRp_sF73 {σ : rS} {q : Nat} {x : Int} : TPRp (sF σ q 73 x) = TPRp σ := TPRp_sF (by decide) (by decide)
theorem TPRp_sF74 {σ : rS} {q : Nat} {x : Int} : TPRp (sF σ q 74 x) = TPRp σ := TPRp_sF (by decide) (by decide)
theorem TPRp_sA75 {σ : rS} {i x : Int} : TPRp (sA σ 1075 i x) = TPRp σ := TPRp_sA (by decide)
theorem TPRp_sA76 {σ : rS} {i x : Int} : TPRp (sA σ 1076 i x) = TPRp σ := TPRp_sA (by decide)
theorem TPRp_sA77 {σ : rS} {i x : Int} : TPRp (sA σ 1077 i x) = TPRp σ := TPRp_sA (by decide)
theorem TPRp_sA78 {σ : rS} {i x : Int} : TPRp (sA σ 1078 i x) = TPRp σ := TPRp_sA (by decide)
theorem TPRp_sA79 {σ : rS} {i x : Int} : TPRp (sA σ 1079 i x) = TPRp σ := TPRp_sA (by decide)
theorem TPRp_sF80 {σ : rS} {q : Nat} {x : Int} : TPRp (sF σ q 80 x) = TPRp σ := TPRp_sF (by decide) (by decide)
theorem TPRp_sF81 {σ : rS} {q : Nat} {x : Int} : TPRp (sF σ q 81 x) = TPRp σ := TPRp_sF (by decide) (by decide)
theorem TPRp_sF82 {σ : rS} {q : Nat} {x : Int} : TPRp (sF σ q 82 x) = TPRp σ := TPRp_sF (by decide) (by decide)
theorem TPRp_sF83 {σ : rS} {q : Nat} {x : Int} : TPRp (sF σ q 83 x) = TPRp σ := TPRp_sF (by decide) (by decide)
theorem TPRp_sA84 {σ : rS} {i x : Int} : TPRp (sA σ 1084 i x) = TPRp σ := TPRp_sA (by decide)
theorem TPRp_sA85 {σ : rS} {i x : Int} : TPRp (sA σ 1085 i x) = TPRp σ := TPRp_sA (by decide)
theorem TPRp_sA86 {σ : rS} {i x : Int} : TPRp (sA σ 1086 i x) = TPRp σ := TPRp_sA (by decide)
theorem TPRp_sA87 {σ : rS} {i x : Int} : TPRp (sA σ 1087 i x) = TPRp σ := TPRp_sA (by decide)
theorem TPRp_sF88 {σ : rS} {q : Nat} {x : Int} : TPRp (sF σ q 88 x) = TPRp σ := TPRp_sF (by decide) (by decide)
theorem TPRp_sA89 {σ : rS} {i x : Int} : TPRp (sA σ 1089 i x) = TPRp σ := TPRp_sA (by decide)
theorem TPRp_sA90 {σ : rS} {i x : Int} : TPRp (sA σ 1090 i x) = TPRp σ := TPRp_sA (by decide)
theorem TPRp_sA91 {σ : rS} {i x : Int} : TPRp (sA σ 1091 i x) = TPRp σ := TPRp_sA (by decide)
theorem TPRp_sF92 {σ : rS} {q : Nat} {x : Int} : TPRp (sF σ q 92 x) = TPRp σ := TPRp_sF (by decide) (by decide)
theorem TPRp_sA93 {σ : rS} {i x : Int} : TPRp (sA σ 1093 i x) = TPRp σ := TPRp_sA (by decide)
theorem TPRp_sF94 {σ : rS} {q : Nat} {x : Int} : TPRp (sF σ q 94 x) = TPRp σ := TPRp_sF (by decide) (by decide)
theorem TPRp_sF96 {σ : rS} {q : Nat} {x : Int} : TPRp (sF σ q 96 x) = TPRp σ := TPRp_sF (by decide) (by decide)
theorem TPRp_sF97 {σ : rS} {q : Nat} {x : Int} : TPRp (sF σ q 97 x) = TPRp σ := TPRp_sF (by decide) (by decide)
theorem TPRp_sF98 {σ : rS} {q : Nat} {x : Int} : TPRp (sF σ q 98 x) = TPRp σ := TPRp_sF (by decide) (by decide)
theorem TPRp_sF99 {σ : rS} {q : Nat} {x : Int} : TPRp (sF σ q 99 x) = TPRp σ := TPRp_sF (by decide) (by decide)
theorem TPRp_sF100 {σ : rS} {q : Nat} {x : Int} : TPRp (sF σ q 100 x) = TPRp σ := TPRp_sF (by decide) (by decide)
theorem TPRp_sF101 {σ : rS} {q : Nat} {x : Int} : TPRp (sF σ q 101 x) = TPRp σ := TPRp_sF (by decide) (by decide)
theorem TPRp_sA102 {σ : rS} {i x : Int} : TPRp (sA σ 1102 i x) = TPRp σ := TPRp_sA (by decide)
theorem TPRp_sF103 {σ : rS} {q : Nat} {x : Int} : TPRp (sF σ q 103 x) = TPRp σ := TPRp_sF (by decide) (by decide)
theorem TPRp_sF104 {σ : rS} {q : Nat} {x : Int} : TPRp (sF σ q 104 x) = TPRp σ := TPRp_sF (by decide) (by decide)
theorem TPRp_sA105 {σ : rS} {i x : Int} : TPRp (sA σ 1105 i x) = TPRp σ := TPRp_sA (by decide)
theorem TPRp_sA106 {σ : rS} {i x : Int} : TPRp (sA σ 1106 i x) = TPRp σ := TPRp_sA (by decide)
theorem TPRp_sA107 {σ : rS} {i x : Int} : TPRp (sA σ 1107 i x) = TPRp σ := TPRp_sA (by decide)
theorem TPRp_sA108 {σ : rS} {i x : Int} : TPRp (sA σ 1108 i x) = TPRp σ := TPRp_sA (by decide)
theorem TPRp_sA109 {σ : rS} {i x : Int} : TPRp (sA σ 1109 i x) = TPRp σ := TPRp_sA (by decide)
theorem TPRp_sA110 {σ : rS} {i x : Int} : TPRp (sA σ 1110 i x) = TPRp σ := TPRp_sA (by decide)
theorem TPRp_sA111 {σ : rS} {i x : Int} : TPRp (sA σ 1111 i x) = TPRp σ := TPRp_sA (by decide)
theorem TPRp_sF112 {σ : rS} {q : Nat} {x : Int} : TPRp (sF σ q 112 x) = TPRp σ := TPRp_sF (by decide) (by decide)
theorem TPRp_sF113 {σ : rS} {q : Nat} {x : Int} : TPRp (sF σ q 113 x) = TPRp σ := TPRp_sF (by decide) (by decide)
theorem TPRp_sA114 {σ : rS} {i x : Int} : TPRp (sA σ 1114 i x) = TPRp σ := TPRp_sA (by decide)
theorem TPRp_sA115 {σ : rS} {i x : Int} : TPRp (sA σ 1115 i x) = TPRp σ := TPRp_sA (by decide)
theorem TPRp_sA116 {σ : rS} {i x : Int} : TPRp (sA σ 1116 i x) = TPRp σ := TPRp_sA (by decide)
theorem TPRp_sA117 {σ : rS} {i x : Int} : TPRp (sA σ 1117 i x) = TPRp σ := TPRp_sA (by decide)
theorem TPRp_sF118 {σ : rS} {q : Nat} {x : Int} : TPRp (sF σ q 118 x) = TPRp σ := TPRp_sF (by decide) (by decide)
theorem TPRp_sF119 {σ : rS} {q : Nat} {x : Int} : TPRp (sF σ q 119 x) = TPRp σ := TPRp_sF (by decide) (by decide)
theorem TPRp_sA120 {σ : rS} {i x : Int} : TPRp (sA σ 1120 i x) = TPRp σ := TPRp_sA (by decide)
theorem TPRp_sA121 {σ : rS} {i x : Int} : TPRp (sA σ 1121 i x) = TPRp σ := TPRp_sA (by decide)
theorem TPRp_sF122 {σ : rS} {q : Nat} {x : Int} : TPRp (sF σ q 122 x) = TPRp σ := TPRp_sF (by decide) (by decide)
theorem TPRp_sF123 {σ : rS} {q : Nat} {x : Int} : TPRp (sF σ q 123 x) = TPRp σ := TPRp_sF (by decide) (by decide)
theorem TPRp_sA124 {σ : rS} {i x : Int} : TPRp (sA σ 1124 i x) = TPRp σ := TPRp_sA (by decide)
theorem TPRp_sA125 {σ : rS} {i x : Int} : TPRp (sA σ 1125 i x) = TPRp σ := TPRp_sA (by decide)
theorem TPRp_sA126 {σ : rS} {i x : Int} : TPRp (sA σ 1126 i x) = TPRp σ := TPRp_sA (by decide)
theorem TPRp_sA127 {σ : rS} {i x : Int} : TPRp (sA σ 1127 i x) = TPRp σ := TPRp_sA (by decide)
theorem TPRp_sA128 {σ : rS} {i x : Int} : TPRp (sA σ 1128 i x) = TPRp σ := TPRp_sA (by decide)
theorem TPRp_sA129 {σ : rS} {i x : Int} : TPRp (sA σ 1129 i x) = TPRp σ := TPRp_sA (by decide)
theorem TPRp_sF135 {σ : rS} {q : Nat} {x : Int} : TPRp (sF σ q 135 x) = TPRp σ := TPRp_sF (by decide) (by decide)
theorem TPRp_sA136 {σ : rS} {i x : Int} : TPRp (sA σ 1136 i x) = TPRp σ := TPRp_sA (by decide)
theorem TPRp_sF137 {σ : rS} {q : Nat} {x : Int} : TPRp (sF σ q 137 x) = TPRp σ := TPRp_sF (by decide) (by decide)
theorem TPRp_sA138 {σ : rS} {i x : Int} : TPRp (sA σ 1138 i x) = TPRp σ := TPRp_sA (by decide)
theorem TPRp_gA0 {σ : rS} {k : Nat} {i x : Int} : TPRp (sA σ (1000 * (k + 1) + 0) i x) = TPRp σ := TPRp_sA (by omega)
theorem TPRp_gA1 {σ : rS} {k : Nat} {i x : Int} : TPRp (sA σ (1000 * (k + 1) + 1) i x) = TPRp σ := TPRp_sA (by omega)
theorem TPRp_gA2 {σ : rS} {k : Nat} {i x : Int} : TPRp (sA σ (1000 * (k + 1) + 2) i x) = TPRp σ := TPRp_sA (by omega)
theorem TPRp_gA3 {σ : rS} {k : Nat} {i x : Int} : TPRp (sA σ (1000 * (k + 1) + 3) i x) = TPRp σ := TPRp_sA (by omega)
theorem TPRp_gA4 {σ : rS} {k : Nat} {i x : Int} : TPRp (sA σ (1000 * (k + 1) + 4) i x) = TPRp σ := TPRp_sA (by omega)
theorem TPRp_gA5 {σ : rS} {k : Nat} {i x : Int} : TPRp (sA σ (1000 * (k + 1) + 5) i x) = TPRp σ := TPRp_sA (by omega)
theorem TPRp_gA6 {σ : rS} {k : Nat} {i x : Int} : TPRp (sA σ (1000 * (k + 1) + 6) i x) = TPRp σ := TPRp_sA (by omega)
theorem TPRp_sF7 {σ : rS} {q : Nat} {x : Int} : TPRp (sF σ q 7 x) = TPRp σ := TPRp_sF (by decide) (by decide)
theorem TPRp_gA8 {σ : rS} {k : Nat} {i x : Int} : TPRp (sA σ (1000 * (k + 1) + 8) i x) = TPRp σ := TPRp_sA (by omega)
theorem TPRp_sF9 {σ : rS} {q : Nat} {x : Int} : TPRp (sF σ q 9 x) = TPRp σ := TPRp_sF (by decide) (by decide)
theorem TPRp_gA10 {σ : rS} {k : Nat} {i x : Int} : TPRp (sA σ (1000 * (k + 1) + 10) i x) = TPRp σ := TPRp_sA (by omega)
theorem TPRp_gA11 {σ : rS} {k : Nat} {i x : Int} : TPRp (sA σ (1000 * (k + 1) + 11) i x) = TPRp σ := TPRp_sA (by omega)
theorem TPRp_gA15 {σ : rS} {k : Nat} {i x : Int} : TPRp (sA σ (1000 * (k + 1) + 15) i x) = TPRp σ := TPRp_sA (by omega)
theorem TPRp_gA16 {σ : rS} {k : Nat} {i x : Int} : TPRp (sA σ (1000 * (k + 1) + 16) i x) = TPRp σ := TPRp_sA (by omega)
theorem TPRp_gA17 {σ : rS} {k : Nat} {i x : Int} : TPRp (sA σ (1000 * (k + 1) + 17) i x) = TPRp σ := TPRp_sA (by omega)
theorem TPRp_gA18 {σ : rS} {k : Nat} {i x : Int} : TPRp (sA σ (1000 * (k + 1) + 18) i x) = TPRp σ := TPRp_sA (by omega)
theorem TPRp_gA19 {σ : rS} {k : Nat} {i x : Int} : TPRp (sA σ (1000 * (k + 1) + 19) i x) = TPRp σ := TPRp_sA (by omega)
theorem TPRp_gA20 {σ : rS} {k : Nat} {i x : Int} : TPRp (sA σ (1000 * (k + 1) + 20) i x) = TPRp σ := TPRp_sA (by omega)
theorem TPRp_gA21 {σ : rS} {k : Nat} {i x : Int} : TPRp (sA σ (1000 * (k + 1) + 21) i x) = TPRp σ := TPRp_sA (by omega)
theorem TPRp_gA22 {σ : rS} {k : Nat} {i x : Int} : TPRp (sA σ (1000 * (k + 1) + 22) i x) = TPRp σ := TPRp_sA (by omega)
theorem TPRp_gA23 {σ : rS} {k : Nat} {i x : Int} : TPRp (sA σ (1000 * (k + 1) + 23) i x) = TPRp σ := TPRp_sA (by omega)
theorem TPRp_gA24 {σ : rS} {k : Nat} {i x : Int} : TPRp (sA σ (1000 * (k + 1) + 24) i x) = TPRp σ := TPRp_sA (by omega)
theorem TPRp_gA25 {σ : rS} {k : Nat} {i x : Int} : TPRp (sA σ (1000 * (k + 1) + 25) i x) = TPRp σ := TPRp_sA (by omega)
theorem TPRp_gA26 {σ : rS} {k : Nat} {i x : Int} : TPRp (sA σ (1000 * (k + 1) + 26) i x) = TPRp σ := TPRp_sA (by omega)
theorem TPRp_gA29 {σ : rS} {k : Nat} {i x : Int} : TPRp (sA σ (1000 * (k + 1) + 29) i x) = TPRp σ := TPRp_sA (by omega)
theorem TPRp_gA30 {σ : rS} {k : Nat} {i x : Int} : TPRp (sA σ (1000 * (k + 1) + 30) i x) = TPRp σ := TPRp_sA (by omega)
theorem TPRp_gA31 {σ : rS} {k : Nat} {i x : Int} : TPRp (sA σ (1000 * (k + 1) + 31) i x) = TPRp σ := TPRp_sA (by omega)
theorem TPRp_gA33 {σ : rS} {k : Nat} {i x : Int} : TPRp (sA σ (1000 * (k + 1) + 33) i x) = TPRp σ := TPRp_sA (by omega)
theorem TPRp_gA34 {σ : rS} {k : Nat} {i x : Int} : TPRp (sA σ (1000 * (k + 1) + 34) i x) = TPRp σ := TPRp_sA (by omega)
theorem TPRp_gA35 {σ : rS} {k : Nat} {i x : Int} : TPRp (sA σ (1000 * (k + 1) + 35) i x) = TPRp σ := TPRp_sA (by omega)
theorem TPRp_gA36 {σ : rS} {k : Nat} {i x : Int} : TPRp (sA σ (1000 * (k + 1) + 36) i x) = TPRp σ := TPRp_sA (by omega)
theorem TPRp_gA37 {σ : rS} {k : Nat} {i x : Int} : TPRp (sA σ (1000 * (k + 1) + 37) i x) = TPRp σ := TPRp_sA (by omega)
def WNp (σ : rS) : Prop := (∀ j, 0 ≤ j → j < (rF σ 0 38) → 0 ≤ (rA σ 1036 (j)) ∧ (rA σ 1036 (j)) ≤ 4000 ∧ (((rA σ 1034 (j)) = 4 ∨ (rA σ 1034 (j)) = 6 ∨ (rA σ 1034 (j)) = 7 ∨ (rA σ 1034 (j)) = 25) → 0 ≤ (rA σ 1035 (j)) ∧ (rA σ 1035 (j)) < 50000) ∧ (1 ≤ (rA σ 1034 (j)) ∧ (rA σ 1034 (j)) ≤ 7 ∨ 20 ≤ (rA σ 1034 (j)) ∧ (rA σ 1034 (j)) ≤ 26) ∧ ((rA σ 1037 (j)) = 0 ∨ (rA σ 1034 (j)) = 1 ∨ (rA σ 1034 (j)) = 2))
theorem WNp.keep {a b c d e : Nat} {s t : rS} (h : rKeep a b c d e s t) (hF38 : a.testBit 38 = false) (hA34 : c.testBit 34 = false) (hA35 : c.testBit 35 = false) (hA36 : c.testBit 36 = false) (hA37 : c.testBit 37 = false) (hs : WNp s) : WNp t := by
  have ehF38 := h.F (f := 38) hF38
  have ehA34 : ∀ i, rA t (1000 + 34) i = rA s (1000 + 34) i := fun i => h.A (f := 34) (by decide) hA34
  have ehA35 : ∀ i, rA t (1000 + 35) i = rA s (1000 + 35) i := fun i => h.A (f := 35) (by decide) hA35
  have ehA36 : ∀ i, rA t (1000 + 36) i = rA s (1000 + 36) i := fun i => h.A (f := 36) (by decide) hA36
  have ehA37 : ∀ i, rA t (1000 + 37) i = rA s (1000 + 37) i := fun i => h.A (f := 37) (by decide) hA37
  unfold WNp at *
  (try simp only [Nat.reduceAdd] at *)
  simp only [ehF38, ehA34, ehA35, ehA36, ehA37] at *
  exact hs
theorem WNp_sL {σ : rS} {p : Nat} {i : Int} {x : Int64} : WNp (sL σ p i x) = WNp σ := rfl
theorem WNp_sF {σ : rS} {q f : Nat} {x : Int} (h38 : f ≠ 38) : WNp (sF σ q f x) = WNp σ := by
  simp only [WNp, rA_sF, F_sF_ne (Ne.symm h38)]
theorem WNp_sA {σ : rS} {p : Nat} {i x : Int} (h34 : p ≠ 1034) (h35 : p ≠ 1035) (h36 : p ≠ 1036) (h37 : p ≠ 1037) : WNp (sA σ p i x) = WNp σ := by
  simp only [WNp, rF_sA, A_sA_ne (Ne.symm h34), A_sA_ne (Ne.symm h35), A_sA_ne (Ne.symm h36), A_sA_ne (Ne.symm h37)]
theorem WNp_sF0 {σ : rS} {q : Nat} {x : Int} : WNp (sF σ q 0 x) = WNp σ := WNp_sF (by decide)
theorem WNp_sA1 {σ : rS} {i x : Int} : WNp (sA σ 1001 i x) = WNp σ := WNp_sA (by decide) (by decide) (by decide) (by decide)
theorem WNp_sA2 {σ : rS} {i x : Int} : WNp (sA σ 1002 i x) = WNp σ := WNp_sA (by decide) (by decide) (by decide) (by decide)
theorem WNp_sF3 {σ : rS} {q : Nat} {x : Int} : WNp (sF σ q 3 x) = WNp σ := WNp_sF (by decide)
theorem WNp_sA5 {σ : rS} {i x : Int} : WNp (sA σ 1005 i x) = WNp σ := WNp_sA (by decide) (by decide) (by decide) (by decide)
theorem WNp_sF10 {σ : rS} {q : Nat} {x : Int} : WNp (sF σ q 10 x) = WNp σ := WNp_sF (by decide)
theorem WNp_sF11 {σ : rS} {q : Nat} {x : Int} : WNp (sF σ q 11 x) = WNp σ := WNp_sF (by decide)
theorem WNp_sF12 {σ : rS} {q : Nat} {x : Int} : WNp (sF σ q 12 x) = WNp σ := WNp_sF (by decide)
theorem WNp_sF13 {σ : rS} {q : Nat} {x : Int} : WNp (sF σ q 13 x) = WNp σ := WNp_sF (by decide)
theorem WNp_sF14 {σ : rS} {q : Nat} {x : Int} : WNp (sF σ q 14 x) = WNp σ := WNp_sF (by decide)
theorem WNp_sF16 {σ : rS} {q : Nat} {x : Int} : WNp (sF σ q 16 x) = WNp σ := WNp_sF (by decide)
theorem WNp_sF17 {σ : rS} {q : Nat} {x : Int} : WNp (sF σ q 17 x) = WNp σ := WNp_sF (by decide)
theorem WNp_sF18 {σ : rS} {q : Nat} {x : Int} : WNp (sF σ q 18 x) = WNp σ := WNp_sF (by decide)
theorem WNp_sF19 {σ : rS} {q : Nat} {x : Int} : WNp (sF σ q 19 x) = WNp σ := WNp_sF (by decide)
theorem WNp_sA20 {σ : rS} {i x : Int} : WNp (sA σ 1020 i x) = WNp σ := WNp_sA (by decide) (by decide) (by decide) (by decide)
theorem WNp_sF21 {σ : rS} {q : Nat} {x : Int} : WNp (sF σ q 21 x) = WNp σ := WNp_sF (by decide)
theorem WNp_sF22 {σ : rS} {q : Nat} {x : Int} : WNp (sF σ q 22 x) = WNp σ := WNp_sF (by decide)
theorem WNp_sF23 {σ : rS} {q : Nat} {x : Int} : WNp (sF σ q 23 x) = WNp σ := WNp_sF (by decide)
theorem WNp_sF24 {σ : rS} {q : Nat} {x : Int} : WNp (sF σ q 24 x) = WNp σ := WNp_sF (by decide)
theorem WNp_sF25 {σ : rS} {q : Nat} {x : Int} : WNp (sF σ q 25 x) = WNp σ := WNp_sF (by decide)
theorem WNp_sA26 {σ : rS} {i x : Int} : WNp (sA σ 1026 i x) = WNp σ := WNp_sA (by decide) (by decide) (by decide) (by decide)
theorem WNp_sA27 {σ : rS} {i x : Int} : WNp (sA σ 1027 i x) = WNp σ := WNp_sA (by decide) (by decide) (by decide) (by decide)
theorem WNp_sF28 {σ : rS} {q : Nat} {x : Int} : WNp (sF σ q 28 x) = WNp σ := WNp_sF (by decide)
theorem WNp_sF29 {σ : rS} {q : Nat} {x : Int} : WNp (sF σ q 29 x) = WNp σ := WNp_sF (by decide)
theorem WNp_sF30 {σ : rS} {q : Nat} {x : Int} : WNp (sF σ q 30 x) = WNp σ := WNp_sF (by decide)
theorem WNp_sF31 {σ : rS} {q : Nat} {x : Int} : WNp (sF σ q 31 x) = WNp σ := WNp_sF (by decide)
theorem WNp_sF32 {σ : rS} {q : Nat} {x : Int} : WNp (sF σ q 32 x) = WNp σ := WNp_sF (by decide)
theorem WNp_sF33 {σ : rS} {q : Nat} {x : Int} : WNp (sF σ q 33 x) = WNp σ := WNp_sF (by decide)
theorem WNp_sF39 {σ : rS} {q : Nat} {x : Int} : WNp (sF σ q 39 x) = WNp σ := WNp_sF (by decide)
theorem WNp_sA40 {σ : rS} {i x : Int} : WNp (sA σ 1040 i x) = WNp σ := WNp_sA (by decide) (by decide) (by decide) (by decide)
theorem WNp_sF41 {σ : rS} {q : Nat} {x : Int} : WNp (sF σ q 41 x) = WNp σ := WNp_sF (by decide)
theorem WNp_sF42 {σ : rS} {q : Nat} {x : Int} : WNp (sF σ q 42 x) = WNp σ := WNp_sF (by decide)
theorem WNp_sF43 {σ : rS} {q : Nat} {x : Int} : WNp (sF σ q 43 x) = WNp σ := WNp_sF (by decide)
theorem WNp_sF44 {σ : rS} {q : Nat} {x : Int} : WNp (sF σ q 44 x) = WNp σ := WNp_sF (by decide)
theorem WNp_sF45 {σ : rS} {q : Nat} {x : Int} : WNp (sF σ q 45 x) = WNp σ := WNp_sF (by decide)
theorem WNp_sA46 {σ : rS} {i x : Int} : WNp (sA σ 1046 i x) = WNp σ := WNp_sA (by decide) (by decide) (by decide) (by decide)
theorem WNp_sA47 {σ : rS} {i x : Int} : WNp (sA σ 1047 i x) = WNp σ := WNp_sA (by decide) (by decide) (by decide) (by decide)
theorem WNp_sA48 {σ : rS} {i x : Int} : WNp (sA σ 1048 i x) = WNp σ := WNp_sA (by decide) (by decide) (by decide) (by decide)
theorem WNp_sA49 {σ : rS} {i x : Int} : WNp (sA σ 1049 i x) = WNp σ := WNp_sA (by decide) (by decide) (by decide) (by decide)
theorem WNp_sA50 {σ : rS} {i x : Int} : WNp (sA σ 1050 i x) = WNp σ := WNp_sA (by decide) (by decide) (by decide) (by decide)
theorem WNp_sA51 {σ : rS} {i x : Int} : WNp (sA σ 1051 i x) = WNp σ := WNp_sA (by decide) (by decide) (by decide) (by decide)
theorem WNp_sA52 {σ : rS} {i x : Int} : WNp (sA σ 1052 i x) = WNp σ := WNp_sA (by decide) (by decide) (by decide) (by decide)
theorem WNp_sA53 {σ : rS} {i x : Int} : WNp (sA σ 1053 i x) = WNp σ := WNp_sA (by decide) (by decide) (by decide) (by decide)
theorem WNp_sA54 {σ : rS} {i x : Int} : WNp (sA σ 1054 i x) = WNp σ := WNp_sA (by decide) (by decide) (by decide) (by decide)
theorem WNp_sA55 {σ : rS} {i x : Int} : WNp (sA σ 1055 i x) = WNp σ := WNp_sA (by decide) (by decide) (by decide) (by decide)
theorem WNp_sA56 {σ : rS} {i x : Int} : WNp (sA σ 1056 i x) = WNp σ := WNp_sA (by decide) (by decide) (by decide) (by decide)
theorem WNp_sA57 {σ : rS} {i x : Int} : WNp (sA σ 1057 i x) = WNp σ := WNp_sA (by decide) (by decide) (by decide) (by decide)
theorem WNp_sA58 {σ : rS} {i x : Int} : WNp (sA σ 1058 i x) = WNp σ := WNp_sA (by decide) (by decide) (by decide) (by decide)
theorem WNp_sA59 {σ : rS} {i x : Int} : WNp (sA σ 1059 i x) = WNp σ := WNp_sA (by decide) (by decide) (by decide) (by decide)
theorem WNp_sF60 {σ : rS} {q : Nat} {x : Int} : WNp (sF σ q 60 x) = WNp σ := WNp_sF (by decide)
theorem WNp_sA61 {σ : rS} {i x : Int} : WNp (sA σ 1061 i x) = WNp σ := WNp_sA (by decide) (by decide) (by decide) (by decide)
theorem WNp_sA62 {σ : rS} {i x : Int} : WNp (sA σ 1062 i x) = WNp σ := WNp_sA (by decide) (by decide) (by decide) (by decide)
theorem WNp_sA63 {σ : rS} {i x : Int} : WNp (sA σ 1063 i x) = WNp σ := WNp_sA (by decide) (by decide) (by decide) (by decide)
theorem WNp_sA64 {σ : rS} {i x : Int} : WNp (sA σ 1064 i x) = WNp σ := WNp_sA (by decide) (by decide) (by decide) (by decide)
theorem WNp_sF65 {σ : rS} {q : Nat} {x : Int} : WNp (sF σ q 65 x) = WNp σ := WNp_sF (by decide)
theorem WNp_sF66 {σ : rS} {q : Nat} {x : Int} : WNp (sF σ q 66 x) = WNp σ := WNp_sF (by decide)
theorem WNp_sF67 {σ : rS} {q : Nat} {x : Int} : WNp (sF σ q 67 x) = WNp σ := WNp_sF (by decide)
theorem WNp_sF68 {σ : rS} {q : Nat} {x : Int} : WNp (sF σ q 68 x) = WNp σ := WNp_sF (by decide)
theorem WNp_sA69 {σ : rS} {i x : Int} : WNp (sA σ 1069 i x) = WNp σ := WNp_sA (by decide) (by decide) (by decide) (by decide)
theorem WNp_sF70 {σ : rS} {q : Nat} {x : Int} : WNp (sF σ q 70 x) = WNp σ := WNp_sF (by decide)
theorem WNp_sF71 {σ : rS} {q : Nat} {x : Int} : WNp (sF σ q 71 x) = WNp σ := WNp_sF (by decide)
theorem WNp_sF72 {σ : rS} {q : Nat} {x : Int} : WNp (sF σ q 72 x) = WNp σ := WNp_sF (by decide)
theorem WNp_sF73 {σ : rS} {q : Nat} {x : Int} : WNp (sF σ q 73 x) = WNp σ := WNp_sF (by decide)
theorem WNp_sF74 {σ : rS} {q : Nat} {x : Int} : WNp (sF σ q 74 x) = WNp σ := WNp_sF (by decide)
theorem WNp_sA75 {σ : rS} {i x : Int} : WNp (sA σ 1075 i x) = WNp σ := WNp_sA (by decide) (by decide) (by decide) (by decide)
theorem WNp_sA76 {σ : rS} {i x : Int} : WNp (sA σ 1076 i x) = WNp σ := WNp_sA (by decide) (by decide) (by decide) (by decide)
theorem WNp_sA77 {σ : rS} {i x : Int} : WNp (sA σ 1077 i x) = WNp σ := WNp_sA (by decide) (by decide) (by decide) (by decide)
theorem WNp_sA78 {σ : rS} {i x : Int} : WNp (sA σ 1078 i x) = WNp σ := WNp_sA (by decide) (by decide) (by decide) (by decide)
theorem WNp_sA79 {σ : rS} {i x : Int} : WNp (sA σ 1079 i x) = WNp σ := WNp_sA (by decide) (by decide) (by decide) (by decide)
theorem WNp_sF80 {σ : rS} {q : Nat} {x : Int} : WNp (sF σ q 80 x) = WNp σ := WNp_sF (by decide)
theorem WNp_sF81 {σ : rS} {q : Nat} {x : Int} : WNp (sF σ q 81 x) = WNp σ := WNp_sF (by decide)
theorem WNp_sF82 {σ : rS} {q : Nat} {x : Int} : WNp (sF σ q 82 x) = WNp σ := WNp_sF (by decide)
theorem WNp_sF83 {σ : rS} {q : Nat} {x : Int} : WNp (sF σ q 83 x) = WNp σ := WNp_sF (by decide)
theorem WNp_sA84 {σ : rS} {i x : Int} : WNp (sA σ 1084 i x) = WNp σ := WNp_sA (by decide) (by decide) (by decide) (by decide)
theorem WNp_sA85 {σ : rS} {i x : Int} : WNp (sA σ 1085 i x) = WNp σ := WNp_sA (by decide) (by decide) (by decide) (by decide)
theorem WNp_sA86 {σ : rS} {i x : Int} : WNp (sA σ 1086 i x) = WNp σ := WNp_sA (by decide) (by decide) (by decide) (by decide)
theorem WNp_sA87 {σ : rS} {i x : Int} : WNp (sA σ 1087 i x) = WNp σ := WNp_sA (by decide) (by decide) (by decide) (by decide)
theorem WNp_sF88 {σ : rS} {q : Nat} {x : Int} : WNp (sF σ q 88 x) = WNp σ := WNp_sF (by decide)
theorem WNp_sA89 {σ : rS} {i x : Int} : WNp (sA σ 1089 i x) = WNp σ := WNp_sA (by decide) (by decide) (by decide) (by decide)
theorem WNp_sA90 {σ : rS} {i x : Int} : WNp (sA σ 1090 i x) = WNp σ := WNp_sA (by decide) (by decide) (by decide) (by decide)
theorem WNp_sA91 {σ : rS} {i x : Int} : WNp (sA σ 1091 i x) = WNp σ := WNp_sA (by decide) (by decide) (by decide) (by decide)
theorem WNp_sF92 {σ : rS} {q : Nat} {x : Int} : WNp (sF σ q 92 x) = WNp σ := WNp_sF (by decide)
theorem WNp_sA93 {σ : rS} {i x : Int} : WNp (sA σ 1093 i x) = WNp σ := WNp_sA (by decide) (by decide) (by decide) (by decide)
theorem WNp_sF94 {σ : rS} {q : Nat} {x : Int} : WNp (sF σ q 94 x) = WNp σ := WNp_sF (by decide)
theorem WNp_sF96 {σ : rS} {q : Nat} {x : Int} : WNp (sF σ q 96 x) = WNp σ := WNp_sF (by decide)
theorem WNp_sF97 {σ : rS} {q : Nat} {x : Int} : WNp (sF σ q 97 x) = WNp σ := WNp_sF (by decide)
theorem WNp_sF98 {σ : rS} {q : Nat} {x : Int} : WNp (sF σ q 98 x) = WNp σ := WNp_sF (by decide)
theorem WNp_sF99 {σ : rS} {q : Nat} {x : Int} : WNp (sF σ q 99 x) = WNp σ := WNp_sF (by decide)
theorem WNp_sF100 {σ : rS} {q : Nat} {x : Int} : WNp (sF σ q 100 x) = WNp σ := WNp_sF (by decide)
theorem WNp_sF101 {σ : rS} {q : Nat} {x : Int} : WNp (sF σ q 101 x) = WNp σ := WNp_sF (by decide)
theorem WNp_sA102 {σ : rS} {i x : Int} : WNp (sA σ 1102 i x) = WNp σ := WNp_sA (by decide) (by decide) (by decide) (by decide)
theorem WNp_sF103 {σ : rS} {q : Nat} {x : Int} : WNp (sF σ q 103 x) = WNp σ := WNp_sF (by decide)
theorem WNp_sF104 {σ : rS} {q : Nat} {x : Int} : WNp (sF σ q 104 x) = WNp σ := WNp_sF (by decide)
theorem WNp_sA105 {σ : rS} {i x : Int} : WNp (sA σ 1105 i x) = WNp σ := WNp_sA (by decide) (by decide) (by decide) (by decide)
theorem WNp_sA106 {σ : rS} {i x : Int} : WNp (sA σ 1106 i x) = WNp σ := WNp_sA (by decide) (by decide) (by decide) (by decide)
theorem WNp_sA107 {σ : rS} {i x : Int} : WNp (sA σ 1107 i x) = WNp σ := WNp_sA (by decide) (by decide) (by decide) (by decide)
theorem WNp_sA108 {σ : rS} {i x : Int} : WNp (sA σ 1108 i x) = WNp σ := WNp_sA (by decide) (by decide) (by decide) (by decide)
theorem WNp_sA109 {σ : rS} {i x : Int} : WNp (sA σ 1109 i x) = WNp σ := WNp_sA (by decide) (by decide) (by decide) (by decide)
theorem WNp_sA110 {σ : rS} {i x : Int} : WNp (sA σ 1110 i x) = WNp σ := WNp_sA (by decide) (by decide) (by decide) (by decide)
theorem WNp_sA111 {σ : rS} {i x : Int} : WNp (sA σ 1111 i x) = WNp σ := WNp_sA (by decide) (by decide) (by decide) (by decide)
theorem WNp_sF112 {σ : rS} {q : Nat} {x : Int} : WNp (sF σ q 112 x) = WNp σ := WNp_sF (by decide)
theorem WNp_sF113 {σ : rS} {q : Nat} {x : Int} : WNp (sF σ q 113 x) = WNp σ := WNp_sF (by decide)
theorem WNp_sA114 {σ : rS} {i x : Int} : WNp (sA σ 1114 i x) = WNp σ := WNp_sA (by decide) (by decide) (by decide) (by decide)
theorem WNp_sA115 {σ : rS} {i x : Int} : WNp (sA σ 1115 i x) = WNp σ := WNp_sA (by decide) (by decide) (by decide) (by decide)
theorem WNp_sA116 {σ : rS} {i x : Int} : WNp (sA σ 1116 i x) = WNp σ := WNp_sA (by decide) (by decide) (by decide) (by decide)
theorem WNp_sA117 {σ : rS} {i x : Int} : WNp (sA σ 1117 i x) = WNp σ := WNp_sA (by decide) (by decide) (by decide) (by decide)
theorem WNp_sF118 {σ : rS} {q : Nat} {x : Int} : WNp (sF σ q 118 x) = WNp σ := WNp_sF (by decide)
theorem WNp_sF119 {σ : rS} {q : Nat} {x : Int} : WNp (sF σ q 119 x) = WNp σ := WNp_sF (by decide)
theorem WNp_sA120 {σ : rS} {i x : Int} : WNp (sA σ 1120 i x) = WNp σ := WNp_sA (by decide) (by decide) (by decide) (by decide)
theorem WNp_sA121 {σ : rS} {i x : Int} : WNp (sA σ 1121 i x) = WNp σ := WNp_sA (by decide) (by decide) (by decide) (by decide)
theorem WNp_sF122 {σ : rS} {q : Nat} {x : Int} : WNp (sF σ q 122 x) = WNp σ := WNp_sF (by decide)
theorem WNp_sF123 {σ : rS} {q : Nat} {x : Int} : WNp (sF σ q 123 x) = WNp σ := WNp_sF (by decide)
theorem WNp_sA124 {σ : rS} {i x : Int} : WNp (sA σ 1124 i x) = WNp σ := WNp_sA (by decide) (by decide) (by decide) (by decide)
theorem WNp_sA125 {σ : rS} {i x : Int} : WNp (sA σ 1125 i x) = WNp σ := WNp_sA (by decide) (by decide) (by decide) (by decide)
theorem WNp_sA126 {σ : rS} {i x : Int} : WNp (sA σ 1126 i x) = WNp σ := WNp_sA (by decide) (by decide) (by decide) (by decide)
theorem WNp_sA127 {σ : rS} {i x : Int} : WNp (sA σ 1127 i x) = WNp σ := WNp_sA (by decide) (by decide) (by decide) (by decide)
theorem WNp_sA128 {σ : rS} {i x : Int} : WNp (sA σ 1128 i x) = WNp σ := WNp_sA (by decide) (by decide) (by decide) (by decide)
theorem WNp_sA129 {σ : rS} {i x : Int} : WNp (sA σ 1129 i x) = WNp σ := WNp_sA (by decide) (by decide) (by decide) (by decide)
theorem WNp_sF135 {σ : rS} {q : Nat} {x : Int} : WNp (sF σ q 135 x) = WNp σ := WNp_sF (by decide)
theorem WNp_sA136 {σ : rS} {i x : Int} : WNp (sA σ 1136 i x) = WNp σ := WNp_sA (by decide) (by decide) (by decide) (by decide)
theorem WNp_sF137 {σ : rS} {q : Nat} {x : Int} : WNp (sF σ q 137 x) = WNp σ := WNp_sF (by decide)
theorem WNp_sA138 {σ : rS} {i x : Int} : WNp (sA σ 1138 i x) = WNp σ := WNp_sA (by decide) (by decide) (by decide) (by decide)
theorem WNp_gA0 {σ : rS} {k : Nat} {i x : Int} : WNp (sA σ (1000 * (k + 1) + 0) i x) = WNp σ := WNp_sA (by omega) (by omega) (by omega) (by omega)
theorem WNp_gA1 {σ : rS} {k : Nat} {i x : Int} : WNp (sA σ (1000 * (k + 1) + 1) i x) = WNp σ := WNp_sA (by omega) (by omega) (by omega) (by omega)
theorem WNp_gA2 {σ : rS} {k : Nat} {i x : Int} : WNp (sA σ (1000 * (k + 1) + 2) i x) = WNp σ := WNp_sA (by omega) (by omega) (by omega) (by omega)
theorem WNp_gA3 {σ : rS} {k : Nat} {i x : Int} : WNp (sA σ (1000 * (k + 1) + 3) i x) = WNp σ := WNp_sA (by omega) (by omega) (by omega) (by omega)
theorem WNp_gA4 {σ : rS} {k : Nat} {i x : Int} : WNp (sA σ (1000 * (k + 1) + 4) i x) = WNp σ := WNp_sA (by omega) (by omega) (by omega) (by omega)
theorem WNp_gA5 {σ : rS} {k : Nat} {i x : Int} : WNp (sA σ (1000 * (k + 1) + 5) i x) = WNp σ := WNp_sA (by omega) (by omega) (by omega) (by omega)
theorem WNp_gA6 {σ : rS} {k : Nat} {i x : Int} : WNp (sA σ (1000 * (k + 1) + 6) i x) = WNp σ := WNp_sA (by omega) (by omega) (by omega) (by omega)
theorem WNp_sF7 {σ : rS} {q : Nat} {x : Int} : WNp (sF σ q 7 x) = WNp σ := WNp_sF (by decide)
theorem WNp_gA8 {σ : rS} {k : Nat} {i x : Int} : WNp (sA σ (1000 * (k + 1) + 8) i x) = WNp σ := WNp_sA (by omega) (by omega) (by omega) (by omega)
theorem WNp_sF9 {σ : rS} {q : Nat} {x : Int} : WNp (sF σ q 9 x) = WNp σ := WNp_sF (by decide)
theorem WNp_gA10 {σ : rS} {k : Nat} {i x : Int} : WNp (sA σ (1000 * (k + 1) + 10) i x) = WNp σ := WNp_sA (by omega) (by omega) (by omega) (by omega)
theorem WNp_gA11 {σ : rS} {k : Nat} {i x : Int} : WNp (sA σ (1000 * (k + 1) + 11) i x) = WNp σ := WNp_sA (by omega) (by omega) (by omega) (by omega)
theorem WNp_gA15 {σ : rS} {k : Nat} {i x : Int} : WNp (sA σ (1000 * (k + 1) + 15) i x) = WNp σ := WNp_sA (by omega) (by omega) (by omega) (by omega)
theorem WNp_gA16 {σ : rS} {k : Nat} {i x : Int} : WNp (sA σ (1000 * (k + 1) + 16) i x) = WNp σ := WNp_sA (by omega) (by omega) (by omega) (by omega)
theorem WNp_gA17 {σ : rS} {k : Nat} {i x : Int} : WNp (sA σ (1000 * (k + 1) + 17) i x) = WNp σ := WNp_sA (by omega) (by omega) (by omega) (by omega)
theorem WNp_gA18 {σ : rS} {k : Nat} {i x : Int} : WNp (sA σ (1000 * (k + 1) + 18) i x) = WNp σ := WNp_sA (by omega) (by omega) (by omega) (by omega)
theorem WNp_gA19 {σ : rS} {k : Nat} {i x : Int} : WNp (sA σ (1000 * (k + 1) + 19) i x) = WNp σ := WNp_sA (by omega) (by omega) (by omega) (by omega)
theorem WNp_gA20 {σ : rS} {k : Nat} {i x : Int} : WNp (sA σ (1000 * (k + 1) + 20) i x) = WNp σ := WNp_sA (by omega) (by omega) (by omega) (by omega)
theorem WNp_gA21 {σ : rS} {k : Nat} {i x : Int} : WNp (sA σ (1000 * (k + 1) + 21) i x) = WNp σ := WNp_sA (by omega) (by omega) (by omega) (by omega)
theorem WNp_gA22 {σ : rS} {k : Nat} {i x : Int} : WNp (sA σ (1000 * (k + 1) + 22) i x) = WNp σ := WNp_sA (by omega) (by omega) (by omega) (by omega)
theorem WNp_gA23 {σ : rS} {k : Nat} {i x : Int} : WNp (sA σ (1000 * (k + 1) + 23) i x) = WNp σ := WNp_sA (by omega) (by omega) (by omega) (by omega)
theorem WNp_gA24 {σ : rS} {k : Nat} {i x : Int} : WNp (sA σ (1000 * (k + 1) + 24) i x) = WNp σ := WNp_sA (by omega) (by omega) (by omega) (by omega)
theorem WNp_gA25 {σ : rS} {k : Nat} {i x : Int} : WNp (sA σ (1000 * (k + 1) + 25) i x) = WNp σ := WNp_sA (by omega) (by omega) (by omega) (by omega)
theorem WNp_gA26 {σ : rS} {k : Nat} {i x : Int} : WNp (sA σ (1000 * (k + 1) + 26) i x) = WNp σ := WNp_sA (by omega) (by omega) (by omega) (by omega)
theorem WNp_gA27 {σ : rS} {k : Nat} {i x : Int} : WNp (sA σ (1000 * (k + 1) + 27) i x) = WNp σ := WNp_sA (by omega) (by omega) (by omega) (by omega)
theorem WNp_gA29 {σ : rS} {k : Nat} {i x : Int} : WNp (sA σ (1000 * (k + 1) + 29) i x) = WNp σ := WNp_sA (by omega) (by omega) (by omega) (by omega)
theorem WNp_gA30 {σ : rS} {k : Nat} {i x : Int} : WNp (sA σ (1000 * (k + 1) + 30) i x) = WNp σ := WNp_sA (by omega) (by omega) (by omega) (by omega)
theorem WNp_gA31 {σ : rS} {k : Nat} {i x : Int} : WNp (sA σ (1000 * (k + 1) + 31) i x) = WNp σ := WNp_sA (by omega) (by omega) (by omega) (by omega)
theorem WNp_gA33 {σ : rS} {k : Nat} {i x : Int} : WNp (sA σ (1000 * (k + 1) + 33) i x) = WNp σ := WNp_sA (by omega) (by omega) (by omega) (by omega)
theorem inar_b0 : inar .boolean (0 : Int) = 0 := by decide +kernel
theorem zw2483 : Cond.fieldLink "TemplateHouseModel" 260 "TemplateHouseModel" "fn" "I" ∈ zT := zsub11 83 (by decide +kernel) (by decide +kernel)
theorem zw2482 : Cond.fieldLink "TemplateHouseModel" 263 "TemplateHouseModel" "fb" "[B" ∈ zT := zsub11 82 (by decide +kernel) (by decide +kernel)
theorem zw2496 : Cond.fieldLink "TemplateHouseModel" 548 "TemplateHouseModel" "at" "I" ∈ zT := zsub11 96 (by decide +kernel) (by decide +kernel)
theorem zw2495 : Cond.fieldLink "TemplateHouseModel" 533 "TemplateHouseModel" "tn" "I" ∈ zT := zsub11 95 (by decide +kernel) (by decide +kernel)
theorem zw2493 : Cond.fieldLink "TemplateHouseModel" 36 "TemplateHouseModel" "tb" "[B" ∈ zT := zsub11 93 (by decide +kernel) (by decide +kernel)
theorem zw2497 : Cond.fieldLink "TemplateHouseModel" 536 "TemplateHouseModel" "endPlace" "I" ∈ zT := zsub11 97 (by decide +kernel) (by decide +kernel)
theorem zw2494 : Cond.fieldLink "TemplateHouseModel" 39 "TemplateHouseModel" "tp" "[I" ∈ zT := zsub11 94 (by decide +kernel) (by decide +kernel)
theorem zw2478 : Cond.fieldLink "TemplateHouseModel" 248 "TemplateHouseModel" "fault" "I" ∈ zT := zsub11 78 (by decide +kernel) (by decide +kernel)
theorem zw2481 : Cond.fieldLink "TemplateHouseModel" 251 "TemplateHouseModel" "f" "I" ∈ zT := zsub11 81 (by decide +kernel) (by decide +kernel)
theorem zw2479 : Cond.fieldLink "TemplateHouseModel" 254 "TemplateHouseModel" "faultFile" "I" ∈ zT := zsub11 79 (by decide +kernel) (by decide +kernel)
theorem zw2480 : Cond.fieldLink "TemplateHouseModel" 257 "TemplateHouseModel" "faultPlace" "I" ∈ zT := zsub11 80 (by decide +kernel) (by decide +kernel)
theorem zw2997 : Cond.methodLink "TemplateHouseModel" 270 ⟨"TemplateHouseModel", "isBlank", "(I)Z"⟩ ∈ zT := zsub13 117 (by decide +kernel) (by decide +kernel)
theorem zw3119 : Cond.methodLink "TemplateHouseModel" 566 ⟨"TemplateHouseModel", "blanks", "()V"⟩ ∈ zT := zsub13 239 (by decide +kernel) (by decide +kernel)
theorem zw3099 : Cond.methodLink "TemplateHouseModel" 569 ⟨"TemplateHouseModel", "here", "()I"⟩ ∈ zT := zsub13 219 (by decide +kernel) (by decide +kernel)
theorem zw3103 : Cond.methodLink "TemplateHouseModel" 572 ⟨"TemplateHouseModel", "place", "()I"⟩ ∈ zT := zsub13 223 (by decide +kernel) (by decide +kernel)
theorem zw3000 : Cond.methodLink "TemplateHouseModel" 280 ⟨"TemplateHouseModel", "bad", "(II)V"⟩ ∈ zT := zsub13 120 (by decide +kernel) (by decide +kernel)
theorem zw2498 : Cond.fieldLink "TemplateHouseModel" 551 "TemplateHouseModel" "depth" "I" ∈ zT := zsub11 98 (by decide +kernel) (by decide +kernel)
theorem zw2501 : Cond.fieldLink "TemplateHouseModel" 49 "TemplateHouseModel" "wordKind" "[I" ∈ zT := zsub11 101 (by decide +kernel) (by decide +kernel)
theorem zw2505 : Cond.fieldLink "TemplateHouseModel" 554 "TemplateHouseModel" "words" "I" ∈ zT := zsub11 105 (by decide +kernel) (by decide +kernel)
theorem zw2502 : Cond.fieldLink "TemplateHouseModel" 52 "TemplateHouseModel" "wordNode" "[I" ∈ zT := zsub11 102 (by decide +kernel) (by decide +kernel)
theorem zw2503 : Cond.fieldLink "TemplateHouseModel" 55 "TemplateHouseModel" "wordPlace" "[I" ∈ zT := zsub11 103 (by decide +kernel) (by decide +kernel)
theorem zw2504 : Cond.fieldLink "TemplateHouseModel" 58 "TemplateHouseModel" "gone" "[Z" ∈ zT := zsub11 104 (by decide +kernel) (by decide +kernel)
theorem zw2475 : Cond.fieldLink "TemplateHouseModel" 334 "TemplateHouseModel" "g" "LTemplateHouseModel$Group;" ∈ zT := zsub11 75 (by decide +kernel) (by decide +kernel)
theorem zw2324 : Cond.fieldLinkNest "TemplateHouseModel" 347 "TemplateHouseModel$Group" "nodes" "I" "TemplateHouseModel" ∈ zNest := zsubN10 164 (by decide +kernel) (by decide +kernel)
theorem zw2310 : Cond.fieldLinkNest "TemplateHouseModel" 350 "TemplateHouseModel$Group" "kind" "[I" "TemplateHouseModel" ∈ zNest := zsubN10 150 (by decide +kernel) (by decide +kernel)
theorem zw2312 : Cond.fieldLinkNest "TemplateHouseModel" 353 "TemplateHouseModel$Group" "a" "[I" "TemplateHouseModel" ∈ zNest := zsubN10 152 (by decide +kernel) (by decide +kernel)
theorem zw2314 : Cond.fieldLinkNest "TemplateHouseModel" 356 "TemplateHouseModel$Group" "b" "[I" "TemplateHouseModel" ∈ zNest := zsubN10 154 (by decide +kernel) (by decide +kernel)
theorem zw2316 : Cond.fieldLinkNest "TemplateHouseModel" 359 "TemplateHouseModel$Group" "c" "[I" "TemplateHouseModel" ∈ zNest := zsubN10 156 (by decide +kernel) (by decide +kernel)
theorem zw2318 : Cond.fieldLinkNest "TemplateHouseModel" 362 "TemplateHouseModel$Group" "d" "[I" "TemplateHouseModel" ∈ zNest := zsubN10 158 (by decide +kernel) (by decide +kernel)
theorem zw2320 : Cond.fieldLinkNest "TemplateHouseModel" 365 "TemplateHouseModel$Group" "next" "[I" "TemplateHouseModel" ∈ zNest := zsubN10 160 (by decide +kernel) (by decide +kernel)
theorem zw2322 : Cond.fieldLinkNest "TemplateHouseModel" 368 "TemplateHouseModel$Group" "place" "[I" "TemplateHouseModel" ∈ zNest := zsubN10 162 (by decide +kernel) (by decide +kernel)
theorem zw2374 : Cond.fieldLinkNest "TemplateHouseModel" 483 "TemplateHouseModel$Group" "checkKind" "[I" "TemplateHouseModel" ∈ zNest := zsubN10 214 (by decide +kernel) (by decide +kernel)
theorem zw2384 : Cond.fieldLinkNest "TemplateHouseModel" 486 "TemplateHouseModel$Group" "checks" "I" "TemplateHouseModel" ∈ zNest := zsubN10 224 (by decide +kernel) (by decide +kernel)
theorem zw2376 : Cond.fieldLinkNest "TemplateHouseModel" 489 "TemplateHouseModel$Group" "checkNode" "[I" "TemplateHouseModel" ∈ zNest := zsubN10 216 (by decide +kernel) (by decide +kernel)
theorem zw2378 : Cond.fieldLinkNest "TemplateHouseModel" 492 "TemplateHouseModel$Group" "checkOf" "[I" "TemplateHouseModel" ∈ zNest := zsubN10 218 (by decide +kernel) (by decide +kernel)
theorem zw2380 : Cond.fieldLinkNest "TemplateHouseModel" 495 "TemplateHouseModel$Group" "checkPlace" "[I" "TemplateHouseModel" ∈ zNest := zsubN10 220 (by decide +kernel) (by decide +kernel)
theorem zw2382 : Cond.fieldLinkNest "TemplateHouseModel" 498 "TemplateHouseModel$Group" "checkFile" "[I" "TemplateHouseModel" ∈ zNest := zsubN10 222 (by decide +kernel) (by decide +kernel)
theorem zw3012 : Cond.methodLink "TemplateHouseModel" 284 ⟨"TemplateHouseModel", "isLetter", "(I)Z"⟩ ∈ zT := zsub13 132 (by decide +kernel) (by decide +kernel)
theorem zw3015 : Cond.methodLink "TemplateHouseModel" 287 ⟨"TemplateHouseModel", "isDigit", "(I)Z"⟩ ∈ zT := zsub13 135 (by decide +kernel) (by decide +kernel)
theorem zw2993 : Cond.methodLink "TemplateHouseModel" 266 ⟨"TemplateHouseModel", "fc", "(I)I"⟩ ∈ zT := zsub13 113 (by decide +kernel) (by decide +kernel)
theorem zw2484 : Cond.fieldLink "TemplateHouseModel" 274 "TemplateHouseModel" "fp" "I" ∈ zT := zsub11 84 (by decide +kernel) (by decide +kernel)
theorem zw2989 : Cond.methodLink "TemplateHouseModel" 277 ⟨"TemplateHouseModel", "ahead", "(I)I"⟩ ∈ zT := zsub13 109 (by decide +kernel) (by decide +kernel)
theorem zw2999 : Cond.code ⟨"TemplateHouseModel", "isBlank", "(I)Z"⟩ prog_15_method_3_code 1 (Option.some Jvm.ClassFile.FieldType.boolean) ∈ zT := zsub13 119 rfl rfl
theorem zw14 : Cond.initialized "TemplateHouseModel" ∈ zT := zsub1 14 (by decide +kernel) (by decide +kernel)
theorem zw2998 : Cond.static ⟨"TemplateHouseModel", "isBlank", "(I)Z"⟩ ∈ zT := zsub13 118 (by decide +kernel) (by decide +kernel)
theorem zw3014 : Cond.code ⟨"TemplateHouseModel", "isLetter", "(I)Z"⟩ prog_15_method_4_code 1 (Option.some Jvm.ClassFile.FieldType.boolean) ∈ zT := zsub13 134 rfl rfl
theorem zw3013 : Cond.static ⟨"TemplateHouseModel", "isLetter", "(I)Z"⟩ ∈ zT := zsub13 133 (by decide +kernel) (by decide +kernel)
theorem zw3017 : Cond.code ⟨"TemplateHouseModel", "isDigit", "(I)Z"⟩ prog_15_method_5_code 1 (Option.some Jvm.ClassFile.FieldType.boolean) ∈ zT := zsub13 137 rfl rfl
theorem zw3016 : Cond.static ⟨"TemplateHouseModel", "isDigit", "(I)Z"⟩ ∈ zT := zsub13 136 (by decide +kernel) (by decide +kernel)
theorem zw2996 : Cond.code ⟨"TemplateHouseModel", "fc", "(I)I"⟩ prog_15_method_6_code 2 (Option.some Jvm.ClassFile.FieldType.int) ∈ zT := zsub13 116 rfl rfl
theorem zw2995 : Cond.instanceMethod ⟨"TemplateHouseModel", "fc", "(I)I"⟩ ∈ zT := zsub13 115 (by decide +kernel) (by decide +kernel)
theorem zwp177 : Cond.selects "TemplateHouseModel" ⟨"TemplateHouseModel", "fc", "(I)I"⟩ ⟨"TemplateHouseModel", "fc", "(I)I"⟩ ∈ zT := zin 177 (by decide +kernel) (by decide +kernel)
theorem zw3102 : Cond.code ⟨"TemplateHouseModel", "here", "()I"⟩ prog_15_method_37_code 1 (Option.some Jvm.ClassFile.FieldType.int) ∈ zT := zsub13 222 rfl rfl
theorem zw3101 : Cond.instanceMethod ⟨"TemplateHouseModel", "here", "()I"⟩ ∈ zT := zsub13 221 (by decide +kernel) (by decide +kernel)
theorem zwp186 : Cond.selects "TemplateHouseModel" ⟨"TemplateHouseModel", "here", "()I"⟩ ⟨"TemplateHouseModel", "here", "()I"⟩ ∈ zT := zin 186 (by decide +kernel) (by decide +kernel)
theorem zw3106 : Cond.code ⟨"TemplateHouseModel", "place", "()I"⟩ prog_15_method_38_code 1 (Option.some Jvm.ClassFile.FieldType.int) ∈ zT := zsub13 226 rfl rfl
theorem zw3105 : Cond.instanceMethod ⟨"TemplateHouseModel", "place", "()I"⟩ ∈ zT := zsub13 225 (by decide +kernel) (by decide +kernel)
theorem zwp239 : Cond.selects "TemplateHouseModel" ⟨"TemplateHouseModel", "place", "()I"⟩ ⟨"TemplateHouseModel", "place", "()I"⟩ ∈ zT := zin 239 (by decide +kernel) (by decide +kernel)
theorem zw3003 : Cond.code ⟨"TemplateHouseModel", "bad", "(II)V"⟩ prog_15_method_2_code 3 (Option.none : Option Jvm.ClassFile.FieldType) ∈ zT := zsub13 123 rfl rfl
theorem zw3002 : Cond.instanceMethod ⟨"TemplateHouseModel", "bad", "(II)V"⟩ ∈ zT := zsub13 122 (by decide +kernel) (by decide +kernel)
theorem zwp151 : Cond.selects "TemplateHouseModel" ⟨"TemplateHouseModel", "bad", "(II)V"⟩ ⟨"TemplateHouseModel", "bad", "(II)V"⟩ ∈ zT := zin 151 (by decide +kernel) (by decide +kernel)
theorem zw3122 : Cond.code ⟨"TemplateHouseModel", "blanks", "()V"⟩ prog_15_method_39_code 1 (Option.none : Option Jvm.ClassFile.FieldType) ∈ zT := zsub14 2 rfl rfl
theorem zw3121 : Cond.instanceMethod ⟨"TemplateHouseModel", "blanks", "()V"⟩ ∈ zT := zsub14 1 (by decide +kernel) (by decide +kernel)
theorem zwp153 : Cond.selects "TemplateHouseModel" ⟨"TemplateHouseModel", "blanks", "()V"⟩ ⟨"TemplateHouseModel", "blanks", "()V"⟩ ∈ zT := zin 153 (by decide +kernel) (by decide +kernel)
theorem zw3139 : Cond.code ⟨"TemplateHouseModel", "need", "(I)V"⟩ prog_15_method_40_code 2 (Option.none : Option Jvm.ClassFile.FieldType) ∈ zT := zsub14 19 rfl rfl
theorem zw3138 : Cond.instanceMethod ⟨"TemplateHouseModel", "need", "(I)V"⟩ ∈ zT := zsub14 18 (by decide +kernel) (by decide +kernel)
theorem zwp226 : Cond.selects "TemplateHouseModel" ⟨"TemplateHouseModel", "need", "(I)V"⟩ ⟨"TemplateHouseModel", "need", "(I)V"⟩ ∈ zT := zin 226 (by decide +kernel) (by decide +kernel)
theorem zw3181 : Cond.code ⟨"TemplateHouseModel", "deeper", "(I)V"⟩ prog_15_method_46_code 2 (Option.none : Option Jvm.ClassFile.FieldType) ∈ zT := zsub14 61 rfl rfl
theorem zw3180 : Cond.instanceMethod ⟨"TemplateHouseModel", "deeper", "(I)V"⟩ ∈ zT := zsub14 60 (by decide +kernel) (by decide +kernel)
theorem zwp168 : Cond.selects "TemplateHouseModel" ⟨"TemplateHouseModel", "deeper", "(I)V"⟩ ⟨"TemplateHouseModel", "deeper", "(I)V"⟩ ∈ zT := zin 168 (by decide +kernel) (by decide +kernel)
theorem zw3114 : Cond.code ⟨"TemplateHouseModel", "note", "(III)V"⟩ prog_15_method_36_code 4 (Option.none : Option Jvm.ClassFile.FieldType) ∈ zT := zsub13 234 rfl rfl
theorem zw3113 : Cond.instanceMethod ⟨"TemplateHouseModel", "note", "(III)V"⟩ ∈ zT := zsub13 233 (by decide +kernel) (by decide +kernel)
theorem zwp229 : Cond.selects "TemplateHouseModel" ⟨"TemplateHouseModel", "note", "(III)V"⟩ ⟨"TemplateHouseModel", "note", "(III)V"⟩ ∈ zT := zin 229 (by decide +kernel) (by decide +kernel)
theorem zw3090 : Cond.code ⟨"TemplateHouseModel", "addByte", "(II)V"⟩ prog_15_method_32_code 3 (Option.none : Option Jvm.ClassFile.FieldType) ∈ zT := zsub13 210 rfl rfl
theorem zw3089 : Cond.instanceMethod ⟨"TemplateHouseModel", "addByte", "(II)V"⟩ ∈ zT := zsub13 209 (by decide +kernel) (by decide +kernel)
theorem zwp143 : Cond.selects "TemplateHouseModel" ⟨"TemplateHouseModel", "addByte", "(II)V"⟩ ⟨"TemplateHouseModel", "addByte", "(II)V"⟩ ∈ zT := zin 143 (by decide +kernel) (by decide +kernel)
theorem zw3173 : Cond.code ⟨"TemplateHouseModel", "node", "(IIII)I"⟩ prog_15_method_16_code 6 (Option.some Jvm.ClassFile.FieldType.int) ∈ zT := zsub14 53 rfl rfl
theorem zw3172 : Cond.instanceMethod ⟨"TemplateHouseModel", "node", "(IIII)I"⟩ ∈ zT := zsub14 52 (by decide +kernel) (by decide +kernel)
theorem zwp228 : Cond.selects "TemplateHouseModel" ⟨"TemplateHouseModel", "node", "(IIII)I"⟩ ⟨"TemplateHouseModel", "node", "(IIII)I"⟩ ∈ zT := zin 228 (by decide +kernel) (by decide +kernel)
theorem zw3078 : Cond.code ⟨"TemplateHouseModel", "check", "(IIII)V"⟩ prog_15_method_25_code 5 (Option.none : Option Jvm.ClassFile.FieldType) ∈ zT := zsub13 198 rfl rfl
theorem zw3077 : Cond.instanceMethod ⟨"TemplateHouseModel", "check", "(IIII)V"⟩ ∈ zT := zsub13 197 (by decide +kernel) (by decide +kernel)
theorem zwp158 : Cond.selects "TemplateHouseModel" ⟨"TemplateHouseModel", "check", "(IIII)V"⟩ ⟨"TemplateHouseModel", "check", "(IIII)V"⟩ ∈ zT := zin 158 (by decide +kernel) (by decide +kernel)
theorem zw3011 : Cond.code ⟨"TemplateHouseModel", "wordEnd", "([BII)I"⟩ prog_15_method_9_code 4 (Option.some Jvm.ClassFile.FieldType.int) ∈ zT := zsub13 131 rfl rfl
theorem zw3010 : Cond.static ⟨"TemplateHouseModel", "wordEnd", "([BII)I"⟩ ∈ zT := zsub13 130 (by decide +kernel) (by decide +kernel)
theorem zw2992 : Cond.code ⟨"TemplateHouseModel", "ahead", "(I)I"⟩ prog_15_method_7_code 4 (Option.some Jvm.ClassFile.FieldType.int) ∈ zT := zsub13 112 rfl rfl
theorem zw2991 : Cond.instanceMethod ⟨"TemplateHouseModel", "ahead", "(I)I"⟩ ∈ zT := zsub13 111 (by decide +kernel) (by decide +kernel)
theorem zwp145 : Cond.selects "TemplateHouseModel" ⟨"TemplateHouseModel", "ahead", "(I)I"⟩ ⟨"TemplateHouseModel", "ahead", "(I)I"⟩ ∈ zT := zin 145 (by decide +kernel) (by decide +kernel)
theorem zw2988 : Cond.code ⟨"TemplateHouseModel", "skip", "()V"⟩ prog_15_method_8_code 2 (Option.none : Option Jvm.ClassFile.FieldType) ∈ zT := zsub13 108 rfl rfl
theorem zw2987 : Cond.instanceMethod ⟨"TemplateHouseModel", "skip", "()V"⟩ ∈ zT := zsub13 107 (by decide +kernel) (by decide +kernel)
theorem zwp281 : Cond.selects "TemplateHouseModel" ⟨"TemplateHouseModel", "skip", "()V"⟩ ⟨"TemplateHouseModel", "skip", "()V"⟩ ∈ zT := zin 281 (by decide +kernel) (by decide +kernel)
abbrev cX14_isBlank : ByteArray := prog_15_method_3_code
abbrev yX14_isBlank : MethodName := ⟨"TemplateHouseModel", "isBlank", "(I)Z"⟩
theorem dmX14_isBlank : zDs yX14_isBlank cX14_isBlank 1 (some .boolean) 1 := ⟨⟨⟨by decide +kernel, by decide +kernel, by decide +kernel⟩, zw2999, zw14⟩, zw2998⟩
abbrev cX14_isLetter : ByteArray := prog_15_method_4_code
abbrev yX14_isLetter : MethodName := ⟨"TemplateHouseModel", "isLetter", "(I)Z"⟩
theorem dmX14_isLetter : zDs yX14_isLetter cX14_isLetter 1 (some .boolean) 1 := ⟨⟨⟨by decide +kernel, by decide +kernel, by decide +kernel⟩, zw3014, zw14⟩, zw3013⟩
abbrev cX14_isDigit : ByteArray := prog_15_method_5_code
abbrev yX14_isDigit : MethodName := ⟨"TemplateHouseModel", "isDigit", "(I)Z"⟩
theorem dmX14_isDigit : zDs yX14_isDigit cX14_isDigit 1 (some .boolean) 1 := ⟨⟨⟨by decide +kernel, by decide +kernel, by decide +kernel⟩, zw3017, zw14⟩, zw3016⟩
abbrev cX14_fc : ByteArray := prog_15_method_6_code
abbrev yX14_fc : MethodName := ⟨"TemplateHouseModel", "fc", "(I)I"⟩
theorem dmX14_fc : zDv yX14_fc cX14_fc 2 (some .int) 1 := ⟨⟨⟨by decide +kernel, by decide +kernel, by decide +kernel⟩, zw2996, zw14⟩, zw2995, zwp177⟩
abbrev cX14_here : ByteArray := prog_15_method_37_code
abbrev yX14_here : MethodName := ⟨"TemplateHouseModel", "here", "()I"⟩
theorem dmX14_here : zDv yX14_here cX14_here 1 (some .int) 0 := ⟨⟨⟨by decide +kernel, by decide +kernel, by decide +kernel⟩, zw3102, zw14⟩, zw3101, zwp186⟩
abbrev cX14_place : ByteArray := prog_15_method_38_code
abbrev yX14_place : MethodName := ⟨"TemplateHouseModel", "place", "()I"⟩
theorem dmX14_place : zDv yX14_place cX14_place 1 (some .int) 0 := ⟨⟨⟨by decide +kernel, by decide +kernel, by decide +kernel⟩, zw3106, zw14⟩, zw3105, zwp239⟩
abbrev cX14_bad : ByteArray := prog_15_method_2_code
abbrev yX14_bad : MethodName := ⟨"TemplateHouseModel", "bad", "(II)V"⟩
theorem dmX14_bad : zDv yX14_bad cX14_bad 3 none 2 := ⟨⟨⟨by decide +kernel, by decide +kernel, by decide +kernel⟩, zw3003, zw14⟩, zw3002, zwp151⟩
abbrev cX14_blanks : ByteArray := prog_15_method_39_code
abbrev yX14_blanks : MethodName := ⟨"TemplateHouseModel", "blanks", "()V"⟩
theorem dmX14_blanks : zDv yX14_blanks cX14_blanks 1 none 0 := ⟨⟨⟨by decide +kernel, by decide +kernel, by decide +kernel⟩, zw3122, zw14⟩, zw3121, zwp153⟩
abbrev cX14_need : ByteArray := prog_15_method_40_code
abbrev yX14_need : MethodName := ⟨"TemplateHouseModel", "need", "(I)V"⟩
theorem dmX14_need : zDv yX14_need cX14_need 2 none 1 := ⟨⟨⟨by decide +kernel, by decide +kernel, by decide +kernel⟩, zw3139, zw14⟩, zw3138, zwp226⟩
abbrev cX14_deeper : ByteArray := prog_15_method_46_code
abbrev yX14_deeper : MethodName := ⟨"TemplateHouseModel", "deeper", "(I)V"⟩
theorem dmX14_deeper : zDv yX14_deeper cX14_deeper 2 none 1 := ⟨⟨⟨by decide +kernel, by decide +kernel, by decide +kernel⟩, zw3181, zw14⟩, zw3180, zwp168⟩
abbrev cX14_note : ByteArray := prog_15_method_36_code
abbrev yX14_note : MethodName := ⟨"TemplateHouseModel", "note", "(III)V"⟩
theorem dmX14_note : zDv yX14_note cX14_note 4 none 3 := ⟨⟨⟨by decide +kernel, by decide +kernel, by decide +kernel⟩, zw3114, zw14⟩, zw3113, zwp229⟩
abbrev cX14_addByte : ByteArray := prog_15_method_32_code
abbrev yX14_addByte : MethodName := ⟨"TemplateHouseModel", "addByte", "(II)V"⟩
theorem dmX14_addByte : zDv yX14_addByte cX14_addByte 3 none 2 := ⟨⟨⟨by decide +kernel, by decide +kernel, by decide +kernel⟩, zw3090, zw14⟩, zw3089, zwp143⟩
abbrev cX14_node : ByteArray := prog_15_method_16_code
abbrev yX14_node : MethodName := ⟨"TemplateHouseModel", "node", "(IIII)I"⟩
theorem dmX14_node : zDv yX14_node cX14_node 6 (some .int) 4 := ⟨⟨⟨by decide +kernel, by decide +kernel, by decide +kernel⟩, zw3173, zw14⟩, zw3172, zwp228⟩
abbrev cX14_check : ByteArray := prog_15_method_25_code
abbrev yX14_check : MethodName := ⟨"TemplateHouseModel", "check", "(IIII)V"⟩
theorem dmX14_check : zDv yX14_check cX14_check 5 none 4 := ⟨⟨⟨by decide +kernel, by decide +kernel, by decide +kernel⟩, zw3078, zw14⟩, zw3077, zwp158⟩
abbrev cX14_wordEnd : ByteArray := prog_15_method_9_code
abbrev yX14_wordEnd : MethodName := ⟨"TemplateHouseModel", "wordEnd", "([BII)I"⟩
theorem dmX14_wordEnd : zDs yX14_wordEnd cX14_wordEnd 4 (some .int) 3 := ⟨⟨⟨by decide +kernel, by decide +kernel, by decide +kernel⟩, zw3011, zw14⟩, zw3010⟩
abbrev cX14_ahead : ByteArray := prog_15_method_7_code
abbrev yX14_ahead : MethodName := ⟨"TemplateHouseModel", "ahead", "(I)I"⟩
theorem dmX14_ahead : zDv yX14_ahead cX14_ahead 4 (some .int) 1 := ⟨⟨⟨by decide +kernel, by decide +kernel, by decide +kernel⟩, zw2992, zw14⟩, zw2991, zwp145⟩
abbrev cX14_skip : ByteArray := prog_15_method_8_code
abbrev yX14_skip : MethodName := ⟨"TemplateHouseModel", "skip", "()V"⟩
theorem dmX14_skip : zDv yX14_skip cX14_skip 2 none 0 := ⟨⟨⟨by decide +kernel, by decide +kernel, by decide +kernel⟩, zw2988, zw14⟩, zw2987, zwp281⟩
theorem dX14_isBlank_0 : decode cX14_isBlank 0 = .ok (.iload_n 0, 1) := by decide +kernel
theorem dX14_isBlank_1 : decode cX14_isBlank 1 = .ok (.bipush 32, 2) := by decide +kernel
theorem dX14_isBlank_3 : decode cX14_isBlank 3 = .ok (.if_icmp .eq 15, 3) := by decide +kernel
theorem dX14_isBlank_18 : decode cX14_isBlank 18 = .ok (.iconst 1, 1) := by decide +kernel
theorem dX14_isBlank_19 : decode cX14_isBlank 19 = .ok (.goto 4, 3) := by decide +kernel
theorem dX14_isBlank_23 : decode cX14_isBlank 23 = .ok (.ireturn, 1) := by decide +kernel
theorem dX14_isBlank_6 : decode cX14_isBlank 6 = .ok (.iload_n 0, 1) := by decide +kernel
theorem dX14_isBlank_7 : decode cX14_isBlank 7 = .ok (.bipush 9, 2) := by decide +kernel
theorem dX14_isBlank_9 : decode cX14_isBlank 9 = .ok (.if_icmp .eq 9, 3) := by decide +kernel
theorem dX14_isBlank_12 : decode cX14_isBlank 12 = .ok (.iload_n 0, 1) := by decide +kernel
theorem dX14_isBlank_13 : decode cX14_isBlank 13 = .ok (.bipush 10, 2) := by decide +kernel
theorem dX14_isBlank_15 : decode cX14_isBlank 15 = .ok (.if_icmp .ne 7, 3) := by decide +kernel
theorem dX14_isBlank_22 : decode cX14_isBlank 22 = .ok (.iconst 0, 1) := by decide +kernel
theorem dX14_isLetter_0 : decode cX14_isLetter 0 = .ok (.iload_n 0, 1) := by decide +kernel
theorem dX14_isLetter_1 : decode cX14_isLetter 1 = .ok (.bipush 97, 2) := by decide +kernel
theorem dX14_isLetter_3 : decode cX14_isLetter 3 = .ok (.if_icmp .lt 9, 3) := by decide +kernel
theorem dX14_isLetter_12 : decode cX14_isLetter 12 = .ok (.iload_n 0, 1) := by decide +kernel
theorem dX14_isLetter_13 : decode cX14_isLetter 13 = .ok (.bipush 65, 2) := by decide +kernel
theorem dX14_isLetter_15 : decode cX14_isLetter 15 = .ok (.if_icmp .lt 9, 3) := by decide +kernel
theorem dX14_isLetter_24 : decode cX14_isLetter 24 = .ok (.iload_n 0, 1) := by decide +kernel
theorem dX14_isLetter_25 : decode cX14_isLetter 25 = .ok (.bipush 95, 2) := by decide +kernel
theorem dX14_isLetter_27 : decode cX14_isLetter 27 = .ok (.if_icmp .ne 7, 3) := by decide +kernel
theorem dX14_isLetter_34 : decode cX14_isLetter 34 = .ok (.iconst 0, 1) := by decide +kernel
theorem dX14_isLetter_35 : decode cX14_isLetter 35 = .ok (.ireturn, 1) := by decide +kernel
theorem dX14_isLetter_30 : decode cX14_isLetter 30 = .ok (.iconst 1, 1) := by decide +kernel
theorem dX14_isLetter_31 : decode cX14_isLetter 31 = .ok (.goto 4, 3) := by decide +kernel
theorem dX14_isLetter_18 : decode cX14_isLetter 18 = .ok (.iload_n 0, 1) := by decide +kernel
theorem dX14_isLetter_19 : decode cX14_isLetter 19 = .ok (.bipush 90, 2) := by decide +kernel
theorem dX14_isLetter_21 : decode cX14_isLetter 21 = .ok (.if_icmp .le 9, 3) := by decide +kernel
theorem dX14_isLetter_6 : decode cX14_isLetter 6 = .ok (.iload_n 0, 1) := by decide +kernel
theorem dX14_isLetter_7 : decode cX14_isLetter 7 = .ok (.bipush 122, 2) := by decide +kernel
theorem dX14_isLetter_9 : decode cX14_isLetter 9 = .ok (.if_icmp .le 21, 3) := by decide +kernel
theorem dX14_isDigit_0 : decode cX14_isDigit 0 = .ok (.iload_n 0, 1) := by decide +kernel
theorem dX14_isDigit_1 : decode cX14_isDigit 1 = .ok (.bipush 48, 2) := by decide +kernel
theorem dX14_isDigit_3 : decode cX14_isDigit 3 = .ok (.if_icmp .lt 13, 3) := by decide +kernel
theorem dX14_isDigit_16 : decode cX14_isDigit 16 = .ok (.iconst 0, 1) := by decide +kernel
theorem dX14_isDigit_17 : decode cX14_isDigit 17 = .ok (.ireturn, 1) := by decide +kernel
theorem dX14_isDigit_6 : decode cX14_isDigit 6 = .ok (.iload_n 0, 1) := by decide +kernel
theorem dX14_isDigit_7 : decode cX14_isDigit 7 = .ok (.bipush 57, 2) := by decide +kernel
theorem dX14_isDigit_9 : decode cX14_isDigit 9 = .ok (.if_icmp .gt 7, 3) := by decide +kernel
theorem dX14_isDigit_12 : decode cX14_isDigit 12 = .ok (.iconst 1, 1) := by decide +kernel
theorem dX14_isDigit_13 : decode cX14_isDigit 13 = .ok (.goto 4, 3) := by decide +kernel
theorem dX14_fc_0 : decode cX14_fc 0 = .ok (.iload_n 1, 1) := by decide +kernel
theorem dX14_fc_1 : decode cX14_fc 1 = .ok (.aload_n 0, 1) := by decide +kernel
theorem dX14_fc_2 : decode cX14_fc 2 = .ok (.getfield 260, 3) := by decide +kernel
theorem dX14_fc_5 : decode cX14_fc 5 = .ok (.if_icmp .ge 12, 3) := by decide +kernel
theorem dX14_fc_17 : decode cX14_fc 17 = .ok (.iconst (-1), 1) := by decide +kernel
theorem dX14_fc_18 : decode cX14_fc 18 = .ok (.ireturn, 1) := by decide +kernel
theorem dX14_fc_8 : decode cX14_fc 8 = .ok (.aload_n 0, 1) := by decide +kernel
theorem dX14_fc_9 : decode cX14_fc 9 = .ok (.getfield 263, 3) := by decide +kernel
theorem dX14_fc_12 : decode cX14_fc 12 = .ok (.iload_n 1, 1) := by decide +kernel
theorem dX14_fc_13 : decode cX14_fc 13 = .ok (.baload, 1) := by decide +kernel
theorem dX14_fc_14 : decode cX14_fc 14 = .ok (.goto 4, 3) := by decide +kernel
theorem dX14_here_0 : decode cX14_here 0 = .ok (.aload_n 0, 1) := by decide +kernel
theorem dX14_here_1 : decode cX14_here 1 = .ok (.getfield 548, 3) := by decide +kernel
theorem dX14_here_4 : decode cX14_here 4 = .ok (.aload_n 0, 1) := by decide +kernel
theorem dX14_here_5 : decode cX14_here 5 = .ok (.getfield 533, 3) := by decide +kernel
theorem dX14_here_8 : decode cX14_here 8 = .ok (.if_icmp .ge 15, 3) := by decide +kernel
theorem dX14_here_23 : decode cX14_here 23 = .ok (.iconst (-1), 1) := by decide +kernel
theorem dX14_here_24 : decode cX14_here 24 = .ok (.ireturn, 1) := by decide +kernel
theorem dX14_here_11 : decode cX14_here 11 = .ok (.aload_n 0, 1) := by decide +kernel
theorem dX14_here_12 : decode cX14_here 12 = .ok (.getfield 36, 3) := by decide +kernel
theorem dX14_here_15 : decode cX14_here 15 = .ok (.aload_n 0, 1) := by decide +kernel
theorem dX14_here_16 : decode cX14_here 16 = .ok (.getfield 548, 3) := by decide +kernel
theorem dX14_here_19 : decode cX14_here 19 = .ok (.baload, 1) := by decide +kernel
theorem dX14_here_20 : decode cX14_here 20 = .ok (.goto 4, 3) := by decide +kernel
theorem dX14_place_0 : decode cX14_place 0 = .ok (.aload_n 0, 1) := by decide +kernel
theorem dX14_place_1 : decode cX14_place 1 = .ok (.getfield 548, 3) := by decide +kernel
theorem dX14_place_4 : decode cX14_place 4 = .ok (.aload_n 0, 1) := by decide +kernel
theorem dX14_place_5 : decode cX14_place 5 = .ok (.getfield 533, 3) := by decide +kernel
theorem dX14_place_8 : decode cX14_place 8 = .ok (.if_icmp .ge 15, 3) := by decide +kernel
theorem dX14_place_23 : decode cX14_place 23 = .ok (.aload_n 0, 1) := by decide +kernel
theorem dX14_place_24 : decode cX14_place 24 = .ok (.getfield 536, 3) := by decide +kernel
theorem dX14_place_27 : decode cX14_place 27 = .ok (.ireturn, 1) := by decide +kernel
theorem dX14_place_11 : decode cX14_place 11 = .ok (.aload_n 0, 1) := by decide +kernel
theorem dX14_place_12 : decode cX14_place 12 = .ok (.getfield 39, 3) := by decide +kernel
theorem dX14_place_15 : decode cX14_place 15 = .ok (.aload_n 0, 1) := by decide +kernel
theorem dX14_place_16 : decode cX14_place 16 = .ok (.getfield 548, 3) := by decide +kernel
theorem dX14_place_19 : decode cX14_place 19 = .ok (.iaload, 1) := by decide +kernel
theorem dX14_place_20 : decode cX14_place 20 = .ok (.goto 7, 3) := by decide +kernel
theorem dX14_bad_0 : decode cX14_bad 0 = .ok (.aload_n 0, 1) := by decide +kernel
theorem dX14_bad_1 : decode cX14_bad 1 = .ok (.getfield 248, 3) := by decide +kernel
theorem dX14_bad_4 : decode cX14_bad 4 = .ok (.ifCond .eq 4, 3) := by decide +kernel
theorem dX14_bad_8 : decode cX14_bad 8 = .ok (.aload_n 0, 1) := by decide +kernel
theorem dX14_bad_9 : decode cX14_bad 9 = .ok (.iload_n 1, 1) := by decide +kernel
theorem dX14_bad_10 : decode cX14_bad 10 = .ok (.putfield 248, 3) := by decide +kernel
theorem dX14_bad_13 : decode cX14_bad 13 = .ok (.aload_n 0, 1) := by decide +kernel
theorem dX14_bad_14 : decode cX14_bad 14 = .ok (.aload_n 0, 1) := by decide +kernel
theorem dX14_bad_15 : decode cX14_bad 15 = .ok (.getfield 251, 3) := by decide +kernel
theorem dX14_bad_18 : decode cX14_bad 18 = .ok (.putfield 254, 3) := by decide +kernel
theorem dX14_bad_21 : decode cX14_bad 21 = .ok (.aload_n 0, 1) := by decide +kernel
theorem dX14_bad_22 : decode cX14_bad 22 = .ok (.iload_n 2, 1) := by decide +kernel
theorem dX14_bad_23 : decode cX14_bad 23 = .ok (.putfield 257, 3) := by decide +kernel
theorem dX14_bad_26 : decode cX14_bad 26 = .ok (.return_, 1) := by decide +kernel
theorem dX14_bad_7 : decode cX14_bad 7 = .ok (.return_, 1) := by decide +kernel
theorem dX14_blanks_0 : decode cX14_blanks 0 = .ok (.aload_n 0, 1) := by decide +kernel
theorem dX14_blanks_1 : decode cX14_blanks 1 = .ok (.getfield 548, 3) := by decide +kernel
theorem dX14_blanks_4 : decode cX14_blanks 4 = .ok (.aload_n 0, 1) := by decide +kernel
theorem dX14_blanks_5 : decode cX14_blanks 5 = .ok (.getfield 533, 3) := by decide +kernel
theorem dX14_blanks_8 : decode cX14_blanks 8 = .ok (.if_icmp .ge 31, 3) := by decide +kernel
theorem dX14_blanks_39 : decode cX14_blanks 39 = .ok (.return_, 1) := by decide +kernel
theorem dX14_blanks_11 : decode cX14_blanks 11 = .ok (.aload_n 0, 1) := by decide +kernel
theorem dX14_blanks_12 : decode cX14_blanks 12 = .ok (.getfield 36, 3) := by decide +kernel
theorem dX14_blanks_15 : decode cX14_blanks 15 = .ok (.aload_n 0, 1) := by decide +kernel
theorem dX14_blanks_16 : decode cX14_blanks 16 = .ok (.getfield 548, 3) := by decide +kernel
theorem dX14_blanks_19 : decode cX14_blanks 19 = .ok (.baload, 1) := by decide +kernel
theorem dX14_blanks_20 : decode cX14_blanks 20 = .ok (.invokestatic 270, 3) := by decide +kernel
theorem dX14_blanks_23 : decode cX14_blanks 23 = .ok (.ifCond .eq 16, 3) := by decide +kernel
theorem dX14_blanks_26 : decode cX14_blanks 26 = .ok (.aload_n 0, 1) := by decide +kernel
theorem dX14_blanks_27 : decode cX14_blanks 27 = .ok (.dup, 1) := by decide +kernel
theorem dX14_blanks_28 : decode cX14_blanks 28 = .ok (.getfield 548, 3) := by decide +kernel
theorem dX14_blanks_31 : decode cX14_blanks 31 = .ok (.iconst 1, 1) := by decide +kernel
theorem dX14_blanks_32 : decode cX14_blanks 32 = .ok (.iadd, 1) := by decide +kernel
theorem dX14_blanks_33 : decode cX14_blanks 33 = .ok (.putfield 548, 3) := by decide +kernel
theorem dX14_blanks_36 : decode cX14_blanks 36 = .ok (.goto (-36), 3) := by decide +kernel
theorem dX14_need_0 : decode cX14_need 0 = .ok (.aload_n 0, 1) := by decide +kernel
theorem dX14_need_1 : decode cX14_need 1 = .ok (.invokevirtual 566, 3) := by decide +kernel
theorem dX14_need_4 : decode cX14_need 4 = .ok (.aload_n 0, 1) := by decide +kernel
theorem dX14_need_5 : decode cX14_need 5 = .ok (.getfield 248, 3) := by decide +kernel
theorem dX14_need_8 : decode cX14_need 8 = .ok (.ifCond .eq 4, 3) := by decide +kernel
theorem dX14_need_12 : decode cX14_need 12 = .ok (.aload_n 0, 1) := by decide +kernel
theorem dX14_need_13 : decode cX14_need 13 = .ok (.invokevirtual 569, 3) := by decide +kernel
theorem dX14_need_16 : decode cX14_need 16 = .ok (.iload_n 1, 1) := by decide +kernel
theorem dX14_need_17 : decode cX14_need 17 = .ok (.if_icmp .ne 16, 3) := by decide +kernel
theorem dX14_need_33 : decode cX14_need 33 = .ok (.aload_n 0, 1) := by decide +kernel
theorem dX14_need_34 : decode cX14_need 34 = .ok (.iconst 1, 1) := by decide +kernel
theorem dX14_need_35 : decode cX14_need 35 = .ok (.aload_n 0, 1) := by decide +kernel
theorem dX14_need_36 : decode cX14_need 36 = .ok (.invokevirtual 572, 3) := by decide +kernel
theorem dX14_need_39 : decode cX14_need 39 = .ok (.invokevirtual 280, 3) := by decide +kernel
theorem dX14_need_42 : decode cX14_need 42 = .ok (.return_, 1) := by decide +kernel
theorem dX14_need_20 : decode cX14_need 20 = .ok (.aload_n 0, 1) := by decide +kernel
theorem dX14_need_21 : decode cX14_need 21 = .ok (.dup, 1) := by decide +kernel
theorem dX14_need_22 : decode cX14_need 22 = .ok (.getfield 548, 3) := by decide +kernel
theorem dX14_need_25 : decode cX14_need 25 = .ok (.iconst 1, 1) := by decide +kernel
theorem dX14_need_26 : decode cX14_need 26 = .ok (.iadd, 1) := by decide +kernel
theorem dX14_need_27 : decode cX14_need 27 = .ok (.putfield 548, 3) := by decide +kernel
theorem dX14_need_30 : decode cX14_need 30 = .ok (.goto 12, 3) := by decide +kernel
theorem dX14_need_11 : decode cX14_need 11 = .ok (.return_, 1) := by decide +kernel
theorem dX14_deeper_0 : decode cX14_deeper 0 = .ok (.aload_n 0, 1) := by decide +kernel
theorem dX14_deeper_1 : decode cX14_deeper 1 = .ok (.getfield 551, 3) := by decide +kernel
theorem dX14_deeper_4 : decode cX14_deeper 4 = .ok (.bipush 20, 2) := by decide +kernel
theorem dX14_deeper_6 : decode cX14_deeper 6 = .ok (.if_icmp .ne 9, 3) := by decide +kernel
theorem dX14_deeper_15 : decode cX14_deeper 15 = .ok (.aload_n 0, 1) := by decide +kernel
theorem dX14_deeper_16 : decode cX14_deeper 16 = .ok (.dup, 1) := by decide +kernel
theorem dX14_deeper_17 : decode cX14_deeper 17 = .ok (.getfield 551, 3) := by decide +kernel
theorem dX14_deeper_20 : decode cX14_deeper 20 = .ok (.iconst 1, 1) := by decide +kernel
theorem dX14_deeper_21 : decode cX14_deeper 21 = .ok (.iadd, 1) := by decide +kernel
theorem dX14_deeper_22 : decode cX14_deeper 22 = .ok (.putfield 551, 3) := by decide +kernel
theorem dX14_deeper_25 : decode cX14_deeper 25 = .ok (.return_, 1) := by decide +kernel
theorem dX14_deeper_9 : decode cX14_deeper 9 = .ok (.aload_n 0, 1) := by decide +kernel
theorem dX14_deeper_10 : decode cX14_deeper 10 = .ok (.iconst 4, 1) := by decide +kernel
theorem dX14_deeper_11 : decode cX14_deeper 11 = .ok (.iload_n 1, 1) := by decide +kernel
theorem dX14_deeper_12 : decode cX14_deeper 12 = .ok (.invokevirtual 280, 3) := by decide +kernel
theorem dX14_note_0 : decode cX14_note 0 = .ok (.aload_n 0, 1) := by decide +kernel
theorem dX14_note_1 : decode cX14_note 1 = .ok (.getfield 49, 3) := by decide +kernel
theorem dX14_note_4 : decode cX14_note 4 = .ok (.aload_n 0, 1) := by decide +kernel
theorem dX14_note_5 : decode cX14_note 5 = .ok (.getfield 554, 3) := by decide +kernel
theorem dX14_note_8 : decode cX14_note 8 = .ok (.iload_n 1, 1) := by decide +kernel
theorem dX14_note_9 : decode cX14_note 9 = .ok (.iastore, 1) := by decide +kernel
theorem dX14_note_10 : decode cX14_note 10 = .ok (.aload_n 0, 1) := by decide +kernel
theorem dX14_note_11 : decode cX14_note 11 = .ok (.getfield 52, 3) := by decide +kernel
theorem dX14_note_14 : decode cX14_note 14 = .ok (.aload_n 0, 1) := by decide +kernel
theorem dX14_note_15 : decode cX14_note 15 = .ok (.getfield 554, 3) := by decide +kernel
theorem dX14_note_18 : decode cX14_note 18 = .ok (.iload_n 2, 1) := by decide +kernel
theorem dX14_note_19 : decode cX14_note 19 = .ok (.iastore, 1) := by decide +kernel
theorem dX14_note_20 : decode cX14_note 20 = .ok (.aload_n 0, 1) := by decide +kernel
theorem dX14_note_21 : decode cX14_note 21 = .ok (.getfield 55, 3) := by decide +kernel
theorem dX14_note_24 : decode cX14_note 24 = .ok (.aload_n 0, 1) := by decide +kernel
theorem dX14_note_25 : decode cX14_note 25 = .ok (.getfield 554, 3) := by decide +kernel
theorem dX14_note_28 : decode cX14_note 28 = .ok (.iload_n 3, 1) := by decide +kernel
theorem dX14_note_29 : decode cX14_note 29 = .ok (.iastore, 1) := by decide +kernel
theorem dX14_note_30 : decode cX14_note 30 = .ok (.aload_n 0, 1) := by decide +kernel
theorem dX14_note_31 : decode cX14_note 31 = .ok (.getfield 58, 3) := by decide +kernel
theorem dX14_note_34 : decode cX14_note 34 = .ok (.aload_n 0, 1) := by decide +kernel
theorem dX14_note_35 : decode cX14_note 35 = .ok (.getfield 554, 3) := by decide +kernel
theorem dX14_note_38 : decode cX14_note 38 = .ok (.iconst 0, 1) := by decide +kernel
theorem dX14_note_39 : decode cX14_note 39 = .ok (.bastore, 1) := by decide +kernel
theorem dX14_note_40 : decode cX14_note 40 = .ok (.aload_n 0, 1) := by decide +kernel
theorem dX14_note_41 : decode cX14_note 41 = .ok (.dup, 1) := by decide +kernel
theorem dX14_note_42 : decode cX14_note 42 = .ok (.getfield 554, 3) := by decide +kernel
theorem dX14_note_45 : decode cX14_note 45 = .ok (.iconst 1, 1) := by decide +kernel
theorem dX14_note_46 : decode cX14_note 46 = .ok (.iadd, 1) := by decide +kernel
theorem dX14_note_47 : decode cX14_note 47 = .ok (.putfield 554, 3) := by decide +kernel
theorem dX14_note_50 : decode cX14_note 50 = .ok (.return_, 1) := by decide +kernel
theorem dX14_addByte_0 : decode cX14_addByte 0 = .ok (.aload_n 0, 1) := by decide +kernel
theorem dX14_addByte_1 : decode cX14_addByte 1 = .ok (.getfield 36, 3) := by decide +kernel
theorem dX14_addByte_4 : decode cX14_addByte 4 = .ok (.aload_n 0, 1) := by decide +kernel
theorem dX14_addByte_5 : decode cX14_addByte 5 = .ok (.getfield 533, 3) := by decide +kernel
theorem dX14_addByte_8 : decode cX14_addByte 8 = .ok (.iload_n 1, 1) := by decide +kernel
theorem dX14_addByte_9 : decode cX14_addByte 9 = .ok (.i2b, 1) := by decide +kernel
theorem dX14_addByte_10 : decode cX14_addByte 10 = .ok (.bastore, 1) := by decide +kernel
theorem dX14_addByte_11 : decode cX14_addByte 11 = .ok (.aload_n 0, 1) := by decide +kernel
theorem dX14_addByte_12 : decode cX14_addByte 12 = .ok (.getfield 39, 3) := by decide +kernel
theorem dX14_addByte_15 : decode cX14_addByte 15 = .ok (.aload_n 0, 1) := by decide +kernel
theorem dX14_addByte_16 : decode cX14_addByte 16 = .ok (.getfield 533, 3) := by decide +kernel
theorem dX14_addByte_19 : decode cX14_addByte 19 = .ok (.iload_n 2, 1) := by decide +kernel
theorem dX14_addByte_20 : decode cX14_addByte 20 = .ok (.iastore, 1) := by decide +kernel
theorem dX14_addByte_21 : decode cX14_addByte 21 = .ok (.aload_n 0, 1) := by decide +kernel
theorem dX14_addByte_22 : decode cX14_addByte 22 = .ok (.dup, 1) := by decide +kernel
theorem dX14_addByte_23 : decode cX14_addByte 23 = .ok (.getfield 533, 3) := by decide +kernel
theorem dX14_addByte_26 : decode cX14_addByte 26 = .ok (.iconst 1, 1) := by decide +kernel
theorem dX14_addByte_27 : decode cX14_addByte 27 = .ok (.iadd, 1) := by decide +kernel
theorem dX14_addByte_28 : decode cX14_addByte 28 = .ok (.putfield 533, 3) := by decide +kernel
theorem dX14_addByte_31 : decode cX14_addByte 31 = .ok (.return_, 1) := by decide +kernel
theorem dX14_node_0 : decode cX14_node 0 = .ok (.aload_n 0, 1) := by decide +kernel
theorem dX14_node_1 : decode cX14_node 1 = .ok (.getfield 334, 3) := by decide +kernel
theorem dX14_node_4 : decode cX14_node 4 = .ok (.getfield 347, 3) := by decide +kernel
theorem dX14_node_7 : decode cX14_node 7 = .ok (.istore 5, 2) := by decide +kernel
theorem dX14_node_9 : decode cX14_node 9 = .ok (.aload_n 0, 1) := by decide +kernel
theorem dX14_node_10 : decode cX14_node 10 = .ok (.getfield 334, 3) := by decide +kernel
theorem dX14_node_13 : decode cX14_node 13 = .ok (.dup, 1) := by decide +kernel
theorem dX14_node_14 : decode cX14_node 14 = .ok (.getfield 347, 3) := by decide +kernel
theorem dX14_node_17 : decode cX14_node 17 = .ok (.iconst 1, 1) := by decide +kernel
theorem dX14_node_18 : decode cX14_node 18 = .ok (.iadd, 1) := by decide +kernel
theorem dX14_node_19 : decode cX14_node 19 = .ok (.putfield 347, 3) := by decide +kernel
theorem dX14_node_22 : decode cX14_node 22 = .ok (.aload_n 0, 1) := by decide +kernel
theorem dX14_node_23 : decode cX14_node 23 = .ok (.getfield 334, 3) := by decide +kernel
theorem dX14_node_26 : decode cX14_node 26 = .ok (.getfield 350, 3) := by decide +kernel
theorem dX14_node_29 : decode cX14_node 29 = .ok (.iload 5, 2) := by decide +kernel
theorem dX14_node_31 : decode cX14_node 31 = .ok (.iload_n 1, 1) := by decide +kernel
theorem dX14_node_32 : decode cX14_node 32 = .ok (.iastore, 1) := by decide +kernel
theorem dX14_node_33 : decode cX14_node 33 = .ok (.aload_n 0, 1) := by decide +kernel
theorem dX14_node_34 : decode cX14_node 34 = .ok (.getfield 334, 3) := by decide +kernel
theorem dX14_node_37 : decode cX14_node 37 = .ok (.getfield 353, 3) := by decide +kernel
theorem dX14_node_40 : decode cX14_node 40 = .ok (.iload 5, 2) := by decide +kernel
theorem dX14_node_42 : decode cX14_node 42 = .ok (.iload_n 2, 1) := by decide +kernel
theorem dX14_node_43 : decode cX14_node 43 = .ok (.iastore, 1) := by decide +kernel
theorem dX14_node_44 : decode cX14_node 44 = .ok (.aload_n 0, 1) := by decide +kernel
theorem dX14_node_45 : decode cX14_node 45 = .ok (.getfield 334, 3) := by decide +kernel
theorem dX14_node_48 : decode cX14_node 48 = .ok (.getfield 356, 3) := by decide +kernel
theorem dX14_node_51 : decode cX14_node 51 = .ok (.iload 5, 2) := by decide +kernel
theorem dX14_node_53 : decode cX14_node 53 = .ok (.iload_n 3, 1) := by decide +kernel
theorem dX14_node_54 : decode cX14_node 54 = .ok (.iastore, 1) := by decide +kernel
theorem dX14_node_55 : decode cX14_node 55 = .ok (.aload_n 0, 1) := by decide +kernel
theorem dX14_node_56 : decode cX14_node 56 = .ok (.getfield 334, 3) := by decide +kernel
theorem dX14_node_59 : decode cX14_node 59 = .ok (.getfield 359, 3) := by decide +kernel
theorem dX14_node_62 : decode cX14_node 62 = .ok (.iload 5, 2) := by decide +kernel
theorem dX14_node_64 : decode cX14_node 64 = .ok (.iconst 0, 1) := by decide +kernel
theorem dX14_node_65 : decode cX14_node 65 = .ok (.iastore, 1) := by decide +kernel
theorem dX14_node_66 : decode cX14_node 66 = .ok (.aload_n 0, 1) := by decide +kernel
theorem dX14_node_67 : decode cX14_node 67 = .ok (.getfield 334, 3) := by decide +kernel
theorem dX14_node_70 : decode cX14_node 70 = .ok (.getfield 362, 3) := by decide +kernel
theorem dX14_node_73 : decode cX14_node 73 = .ok (.iload 5, 2) := by decide +kernel
theorem dX14_node_75 : decode cX14_node 75 = .ok (.iconst 0, 1) := by decide +kernel
theorem dX14_node_76 : decode cX14_node 76 = .ok (.iastore, 1) := by decide +kernel
theorem dX14_node_77 : decode cX14_node 77 = .ok (.aload_n 0, 1) := by decide +kernel
theorem dX14_node_78 : decode cX14_node 78 = .ok (.getfield 334, 3) := by decide +kernel
theorem dX14_node_81 : decode cX14_node 81 = .ok (.getfield 365, 3) := by decide +kernel
theorem dX14_node_84 : decode cX14_node 84 = .ok (.iload 5, 2) := by decide +kernel
theorem dX14_node_86 : decode cX14_node 86 = .ok (.iconst 0, 1) := by decide +kernel
theorem dX14_node_87 : decode cX14_node 87 = .ok (.iastore, 1) := by decide +kernel
theorem dX14_node_88 : decode cX14_node 88 = .ok (.aload_n 0, 1) := by decide +kernel
theorem dX14_node_89 : decode cX14_node 89 = .ok (.getfield 334, 3) := by decide +kernel
theorem dX14_node_92 : decode cX14_node 92 = .ok (.getfield 368, 3) := by decide +kernel
theorem dX14_node_95 : decode cX14_node 95 = .ok (.iload 5, 2) := by decide +kernel
theorem dX14_node_97 : decode cX14_node 97 = .ok (.bipush 8, 2) := by decide +kernel
theorem dX14_node_99 : decode cX14_node 99 = .ok (.iload 4, 2) := by decide +kernel
theorem dX14_node_101 : decode cX14_node 101 = .ok (.imul, 1) := by decide +kernel
theorem dX14_node_102 : decode cX14_node 102 = .ok (.aload_n 0, 1) := by decide +kernel
theorem dX14_node_103 : decode cX14_node 103 = .ok (.getfield 251, 3) := by decide +kernel
theorem dX14_node_106 : decode cX14_node 106 = .ok (.iadd, 1) := by decide +kernel
theorem dX14_node_107 : decode cX14_node 107 = .ok (.iastore, 1) := by decide +kernel
theorem dX14_node_108 : decode cX14_node 108 = .ok (.iload 5, 2) := by decide +kernel
theorem dX14_node_110 : decode cX14_node 110 = .ok (.ireturn, 1) := by decide +kernel
theorem dX14_check_0 : decode cX14_check 0 = .ok (.aload_n 0, 1) := by decide +kernel
theorem dX14_check_1 : decode cX14_check 1 = .ok (.getfield 334, 3) := by decide +kernel
theorem dX14_check_4 : decode cX14_check 4 = .ok (.getfield 483, 3) := by decide +kernel
theorem dX14_check_7 : decode cX14_check 7 = .ok (.aload_n 0, 1) := by decide +kernel
theorem dX14_check_8 : decode cX14_check 8 = .ok (.getfield 334, 3) := by decide +kernel
theorem dX14_check_11 : decode cX14_check 11 = .ok (.getfield 486, 3) := by decide +kernel
theorem dX14_check_14 : decode cX14_check 14 = .ok (.iload_n 1, 1) := by decide +kernel
theorem dX14_check_15 : decode cX14_check 15 = .ok (.iastore, 1) := by decide +kernel
theorem dX14_check_16 : decode cX14_check 16 = .ok (.aload_n 0, 1) := by decide +kernel
theorem dX14_check_17 : decode cX14_check 17 = .ok (.getfield 334, 3) := by decide +kernel
theorem dX14_check_20 : decode cX14_check 20 = .ok (.getfield 489, 3) := by decide +kernel
theorem dX14_check_23 : decode cX14_check 23 = .ok (.aload_n 0, 1) := by decide +kernel
theorem dX14_check_24 : decode cX14_check 24 = .ok (.getfield 334, 3) := by decide +kernel
theorem dX14_check_27 : decode cX14_check 27 = .ok (.getfield 486, 3) := by decide +kernel
theorem dX14_check_30 : decode cX14_check 30 = .ok (.iload_n 2, 1) := by decide +kernel
theorem dX14_check_31 : decode cX14_check 31 = .ok (.iastore, 1) := by decide +kernel
theorem dX14_check_32 : decode cX14_check 32 = .ok (.aload_n 0, 1) := by decide +kernel
theorem dX14_check_33 : decode cX14_check 33 = .ok (.getfield 334, 3) := by decide +kernel
theorem dX14_check_36 : decode cX14_check 36 = .ok (.getfield 492, 3) := by decide +kernel
theorem dX14_check_39 : decode cX14_check 39 = .ok (.aload_n 0, 1) := by decide +kernel
theorem dX14_check_40 : decode cX14_check 40 = .ok (.getfield 334, 3) := by decide +kernel
theorem dX14_check_43 : decode cX14_check 43 = .ok (.getfield 486, 3) := by decide +kernel
theorem dX14_check_46 : decode cX14_check 46 = .ok (.iload_n 3, 1) := by decide +kernel
theorem dX14_check_47 : decode cX14_check 47 = .ok (.iastore, 1) := by decide +kernel
theorem dX14_check_48 : decode cX14_check 48 = .ok (.aload_n 0, 1) := by decide +kernel
theorem dX14_check_49 : decode cX14_check 49 = .ok (.getfield 334, 3) := by decide +kernel
theorem dX14_check_52 : decode cX14_check 52 = .ok (.getfield 495, 3) := by decide +kernel
theorem dX14_check_55 : decode cX14_check 55 = .ok (.aload_n 0, 1) := by decide +kernel
theorem dX14_check_56 : decode cX14_check 56 = .ok (.getfield 334, 3) := by decide +kernel
theorem dX14_check_59 : decode cX14_check 59 = .ok (.getfield 486, 3) := by decide +kernel
theorem dX14_check_62 : decode cX14_check 62 = .ok (.iload 4, 2) := by decide +kernel
theorem dX14_check_64 : decode cX14_check 64 = .ok (.iastore, 1) := by decide +kernel
theorem dX14_check_65 : decode cX14_check 65 = .ok (.aload_n 0, 1) := by decide +kernel
theorem dX14_check_66 : decode cX14_check 66 = .ok (.getfield 334, 3) := by decide +kernel
theorem dX14_check_69 : decode cX14_check 69 = .ok (.getfield 498, 3) := by decide +kernel
theorem dX14_check_72 : decode cX14_check 72 = .ok (.aload_n 0, 1) := by decide +kernel
theorem dX14_check_73 : decode cX14_check 73 = .ok (.getfield 334, 3) := by decide +kernel
theorem dX14_check_76 : decode cX14_check 76 = .ok (.getfield 486, 3) := by decide +kernel
theorem dX14_check_79 : decode cX14_check 79 = .ok (.aload_n 0, 1) := by decide +kernel
theorem dX14_check_80 : decode cX14_check 80 = .ok (.getfield 251, 3) := by decide +kernel
theorem dX14_check_83 : decode cX14_check 83 = .ok (.iastore, 1) := by decide +kernel
theorem dX14_check_84 : decode cX14_check 84 = .ok (.aload_n 0, 1) := by decide +kernel
theorem dX14_check_85 : decode cX14_check 85 = .ok (.getfield 334, 3) := by decide +kernel
theorem dX14_check_88 : decode cX14_check 88 = .ok (.dup, 1) := by decide +kernel
theorem dX14_check_89 : decode cX14_check 89 = .ok (.getfield 486, 3) := by decide +kernel
theorem dX14_check_92 : decode cX14_check 92 = .ok (.iconst 1, 1) := by decide +kernel
theorem dX14_check_93 : decode cX14_check 93 = .ok (.iadd, 1) := by decide +kernel
theorem dX14_check_94 : decode cX14_check 94 = .ok (.putfield 486, 3) := by decide +kernel
theorem dX14_check_97 : decode cX14_check 97 = .ok (.return_, 1) := by decide +kernel
theorem dX14_wordEnd_0 : decode cX14_wordEnd 0 = .ok (.iload_n 2, 1) := by decide +kernel
theorem dX14_wordEnd_1 : decode cX14_wordEnd 1 = .ok (.istore_n 3, 1) := by decide +kernel
theorem dX14_wordEnd_2 : decode cX14_wordEnd 2 = .ok (.iload_n 3, 1) := by decide +kernel
theorem dX14_wordEnd_3 : decode cX14_wordEnd 3 = .ok (.iload_n 1, 1) := by decide +kernel
theorem dX14_wordEnd_4 : decode cX14_wordEnd 4 = .ok (.if_icmp .ge 41, 3) := by decide +kernel
theorem dX14_wordEnd_45 : decode cX14_wordEnd 45 = .ok (.iload_n 3, 1) := by decide +kernel
theorem dX14_wordEnd_46 : decode cX14_wordEnd 46 = .ok (.ireturn, 1) := by decide +kernel
theorem dX14_wordEnd_7 : decode cX14_wordEnd 7 = .ok (.aload_n 0, 1) := by decide +kernel
theorem dX14_wordEnd_8 : decode cX14_wordEnd 8 = .ok (.iload_n 3, 1) := by decide +kernel
theorem dX14_wordEnd_9 : decode cX14_wordEnd 9 = .ok (.baload, 1) := by decide +kernel
theorem dX14_wordEnd_10 : decode cX14_wordEnd 10 = .ok (.invokestatic 284, 3) := by decide +kernel
theorem dX14_wordEnd_13 : decode cX14_wordEnd 13 = .ok (.ifCond .eq 32, 3) := by decide +kernel
theorem dX14_wordEnd_16 : decode cX14_wordEnd 16 = .ok (.iload_n 3, 1) := by decide +kernel
theorem dX14_wordEnd_17 : decode cX14_wordEnd 17 = .ok (.iload_n 1, 1) := by decide +kernel
theorem dX14_wordEnd_18 : decode cX14_wordEnd 18 = .ok (.if_icmp .ge 27, 3) := by decide +kernel
theorem dX14_wordEnd_21 : decode cX14_wordEnd 21 = .ok (.aload_n 0, 1) := by decide +kernel
theorem dX14_wordEnd_22 : decode cX14_wordEnd 22 = .ok (.iload_n 3, 1) := by decide +kernel
theorem dX14_wordEnd_23 : decode cX14_wordEnd 23 = .ok (.baload, 1) := by decide +kernel
theorem dX14_wordEnd_24 : decode cX14_wordEnd 24 = .ok (.invokestatic 284, 3) := by decide +kernel
theorem dX14_wordEnd_27 : decode cX14_wordEnd 27 = .ok (.ifCond .ne 12, 3) := by decide +kernel
theorem dX14_wordEnd_39 : decode cX14_wordEnd 39 = .ok (.iinc 3 1, 3) := by decide +kernel
theorem dX14_wordEnd_42 : decode cX14_wordEnd 42 = .ok (.goto (-26), 3) := by decide +kernel
theorem dX14_wordEnd_30 : decode cX14_wordEnd 30 = .ok (.aload_n 0, 1) := by decide +kernel
theorem dX14_wordEnd_31 : decode cX14_wordEnd 31 = .ok (.iload_n 3, 1) := by decide +kernel
theorem dX14_wordEnd_32 : decode cX14_wordEnd 32 = .ok (.baload, 1) := by decide +kernel
theorem dX14_wordEnd_33 : decode cX14_wordEnd 33 = .ok (.invokestatic 287, 3) := by decide +kernel
theorem dX14_wordEnd_36 : decode cX14_wordEnd 36 = .ok (.ifCond .eq 9, 3) := by decide +kernel
theorem dX14_ahead_0 : decode cX14_ahead 0 = .ok (.iload_n 1, 1) := by decide +kernel
theorem dX14_ahead_1 : decode cX14_ahead 1 = .ok (.istore_n 2, 1) := by decide +kernel
theorem dX14_ahead_2 : decode cX14_ahead 2 = .ok (.iconst 1, 1) := by decide +kernel
theorem dX14_ahead_3 : decode cX14_ahead 3 = .ok (.istore_n 3, 1) := by decide +kernel
theorem dX14_ahead_4 : decode cX14_ahead 4 = .ok (.iload_n 3, 1) := by decide +kernel
theorem dX14_ahead_5 : decode cX14_ahead 5 = .ok (.ifCond .eq 153, 3) := by decide +kernel
theorem dX14_ahead_158 : decode cX14_ahead 158 = .ok (.iload_n 2, 1) := by decide +kernel
theorem dX14_ahead_159 : decode cX14_ahead 159 = .ok (.ireturn, 1) := by decide +kernel
theorem dX14_ahead_8 : decode cX14_ahead 8 = .ok (.iconst 0, 1) := by decide +kernel
theorem dX14_ahead_9 : decode cX14_ahead 9 = .ok (.istore_n 3, 1) := by decide +kernel
theorem dX14_ahead_10 : decode cX14_ahead 10 = .ok (.aload_n 0, 1) := by decide +kernel
theorem dX14_ahead_11 : decode cX14_ahead 11 = .ok (.iload_n 2, 1) := by decide +kernel
theorem dX14_ahead_12 : decode cX14_ahead 12 = .ok (.invokevirtual 266, 3) := by decide +kernel
theorem dX14_ahead_15 : decode cX14_ahead 15 = .ok (.invokestatic 270, 3) := by decide +kernel
theorem dX14_ahead_18 : decode cX14_ahead 18 = .ok (.ifCond .eq 9, 3) := by decide +kernel
theorem dX14_ahead_27 : decode cX14_ahead 27 = .ok (.aload_n 0, 1) := by decide +kernel
theorem dX14_ahead_28 : decode cX14_ahead 28 = .ok (.iload_n 2, 1) := by decide +kernel
theorem dX14_ahead_29 : decode cX14_ahead 29 = .ok (.invokevirtual 266, 3) := by decide +kernel
theorem dX14_ahead_32 : decode cX14_ahead 32 = .ok (.bipush 47, 2) := by decide +kernel
theorem dX14_ahead_34 : decode cX14_ahead 34 = .ok (.if_icmp .ne 45, 3) := by decide +kernel
theorem dX14_ahead_79 : decode cX14_ahead 79 = .ok (.aload_n 0, 1) := by decide +kernel
theorem dX14_ahead_80 : decode cX14_ahead 80 = .ok (.iload_n 2, 1) := by decide +kernel
theorem dX14_ahead_81 : decode cX14_ahead 81 = .ok (.invokevirtual 266, 3) := by decide +kernel
theorem dX14_ahead_84 : decode cX14_ahead 84 = .ok (.bipush 47, 2) := by decide +kernel
theorem dX14_ahead_86 : decode cX14_ahead 86 = .ok (.if_icmp .ne (-82), 3) := by decide +kernel
theorem dX14_ahead_89 : decode cX14_ahead 89 = .ok (.aload_n 0, 1) := by decide +kernel
theorem dX14_ahead_90 : decode cX14_ahead 90 = .ok (.iload_n 2, 1) := by decide +kernel
theorem dX14_ahead_91 : decode cX14_ahead 91 = .ok (.iconst 1, 1) := by decide +kernel
theorem dX14_ahead_92 : decode cX14_ahead 92 = .ok (.iadd, 1) := by decide +kernel
theorem dX14_ahead_93 : decode cX14_ahead 93 = .ok (.invokevirtual 266, 3) := by decide +kernel
theorem dX14_ahead_96 : decode cX14_ahead 96 = .ok (.bipush 42, 2) := by decide +kernel
theorem dX14_ahead_98 : decode cX14_ahead 98 = .ok (.if_icmp .ne (-94), 3) := by decide +kernel
theorem dX14_ahead_101 : decode cX14_ahead 101 = .ok (.iinc 2 2, 3) := by decide +kernel
theorem dX14_ahead_104 : decode cX14_ahead 104 = .ok (.iload_n 2, 1) := by decide +kernel
theorem dX14_ahead_105 : decode cX14_ahead 105 = .ok (.aload_n 0, 1) := by decide +kernel
theorem dX14_ahead_106 : decode cX14_ahead 106 = .ok (.getfield 260, 3) := by decide +kernel
theorem dX14_ahead_109 : decode cX14_ahead 109 = .ok (.if_icmp .ge 31, 3) := by decide +kernel
theorem dX14_ahead_140 : decode cX14_ahead 140 = .ok (.iload_n 2, 1) := by decide +kernel
theorem dX14_ahead_141 : decode cX14_ahead 141 = .ok (.aload_n 0, 1) := by decide +kernel
theorem dX14_ahead_142 : decode cX14_ahead 142 = .ok (.getfield 260, 3) := by decide +kernel
theorem dX14_ahead_145 : decode cX14_ahead 145 = .ok (.if_icmp .lt 5, 3) := by decide +kernel
theorem dX14_ahead_150 : decode cX14_ahead 150 = .ok (.iinc 2 2, 3) := by decide +kernel
theorem dX14_ahead_153 : decode cX14_ahead 153 = .ok (.iconst 1, 1) := by decide +kernel
theorem dX14_ahead_154 : decode cX14_ahead 154 = .ok (.istore_n 3, 1) := by decide +kernel
theorem dX14_ahead_155 : decode cX14_ahead 155 = .ok (.goto (-151), 3) := by decide +kernel
theorem dX14_ahead_148 : decode cX14_ahead 148 = .ok (.iconst (-1), 1) := by decide +kernel
theorem dX14_ahead_149 : decode cX14_ahead 149 = .ok (.ireturn, 1) := by decide +kernel
theorem dX14_ahead_112 : decode cX14_ahead 112 = .ok (.aload_n 0, 1) := by decide +kernel
theorem dX14_ahead_113 : decode cX14_ahead 113 = .ok (.iload_n 2, 1) := by decide +kernel
theorem dX14_ahead_114 : decode cX14_ahead 114 = .ok (.invokevirtual 266, 3) := by decide +kernel
theorem dX14_ahead_117 : decode cX14_ahead 117 = .ok (.bipush 42, 2) := by decide +kernel
theorem dX14_ahead_119 : decode cX14_ahead 119 = .ok (.if_icmp .ne 15, 3) := by decide +kernel
theorem dX14_ahead_134 : decode cX14_ahead 134 = .ok (.iinc 2 1, 3) := by decide +kernel
theorem dX14_ahead_137 : decode cX14_ahead 137 = .ok (.goto (-33), 3) := by decide +kernel
theorem dX14_ahead_122 : decode cX14_ahead 122 = .ok (.aload_n 0, 1) := by decide +kernel
theorem dX14_ahead_123 : decode cX14_ahead 123 = .ok (.iload_n 2, 1) := by decide +kernel
theorem dX14_ahead_124 : decode cX14_ahead 124 = .ok (.iconst 1, 1) := by decide +kernel
theorem dX14_ahead_125 : decode cX14_ahead 125 = .ok (.iadd, 1) := by decide +kernel
theorem dX14_ahead_126 : decode cX14_ahead 126 = .ok (.invokevirtual 266, 3) := by decide +kernel
theorem dX14_ahead_129 : decode cX14_ahead 129 = .ok (.bipush 47, 2) := by decide +kernel
theorem dX14_ahead_131 : decode cX14_ahead 131 = .ok (.if_icmp .eq 9, 3) := by decide +kernel
theorem dX14_ahead_37 : decode cX14_ahead 37 = .ok (.aload_n 0, 1) := by decide +kernel
theorem dX14_ahead_38 : decode cX14_ahead 38 = .ok (.iload_n 2, 1) := by decide +kernel
theorem dX14_ahead_39 : decode cX14_ahead 39 = .ok (.iconst 1, 1) := by decide +kernel
theorem dX14_ahead_40 : decode cX14_ahead 40 = .ok (.iadd, 1) := by decide +kernel
theorem dX14_ahead_41 : decode cX14_ahead 41 = .ok (.invokevirtual 266, 3) := by decide +kernel
theorem dX14_ahead_44 : decode cX14_ahead 44 = .ok (.bipush 47, 2) := by decide +kernel
theorem dX14_ahead_46 : decode cX14_ahead 46 = .ok (.if_icmp .ne 33, 3) := by decide +kernel
theorem dX14_ahead_49 : decode cX14_ahead 49 = .ok (.iload_n 2, 1) := by decide +kernel
theorem dX14_ahead_50 : decode cX14_ahead 50 = .ok (.aload_n 0, 1) := by decide +kernel
theorem dX14_ahead_51 : decode cX14_ahead 51 = .ok (.getfield 260, 3) := by decide +kernel
theorem dX14_ahead_54 : decode cX14_ahead 54 = .ok (.if_icmp .ge 20, 3) := by decide +kernel
theorem dX14_ahead_74 : decode cX14_ahead 74 = .ok (.iconst 1, 1) := by decide +kernel
theorem dX14_ahead_75 : decode cX14_ahead 75 = .ok (.istore_n 3, 1) := by decide +kernel
theorem dX14_ahead_76 : decode cX14_ahead 76 = .ok (.goto (-72), 3) := by decide +kernel
theorem dX14_ahead_57 : decode cX14_ahead 57 = .ok (.aload_n 0, 1) := by decide +kernel
theorem dX14_ahead_58 : decode cX14_ahead 58 = .ok (.getfield 263, 3) := by decide +kernel
theorem dX14_ahead_61 : decode cX14_ahead 61 = .ok (.iload_n 2, 1) := by decide +kernel
theorem dX14_ahead_62 : decode cX14_ahead 62 = .ok (.baload, 1) := by decide +kernel
theorem dX14_ahead_63 : decode cX14_ahead 63 = .ok (.bipush 10, 2) := by decide +kernel
theorem dX14_ahead_65 : decode cX14_ahead 65 = .ok (.if_icmp .eq 9, 3) := by decide +kernel
theorem dX14_ahead_68 : decode cX14_ahead 68 = .ok (.iinc 2 1, 3) := by decide +kernel
theorem dX14_ahead_71 : decode cX14_ahead 71 = .ok (.goto (-22), 3) := by decide +kernel
theorem dX14_ahead_21 : decode cX14_ahead 21 = .ok (.iinc 2 1, 3) := by decide +kernel
theorem dX14_ahead_24 : decode cX14_ahead 24 = .ok (.goto (-14), 3) := by decide +kernel
theorem dX14_skip_0 : decode cX14_skip 0 = .ok (.aload_n 0, 1) := by decide +kernel
theorem dX14_skip_1 : decode cX14_skip 1 = .ok (.getfield 248, 3) := by decide +kernel
theorem dX14_skip_4 : decode cX14_skip 4 = .ok (.ifCond .eq 4, 3) := by decide +kernel
theorem dX14_skip_8 : decode cX14_skip 8 = .ok (.aload_n 0, 1) := by decide +kernel
theorem dX14_skip_9 : decode cX14_skip 9 = .ok (.aload_n 0, 1) := by decide +kernel
theorem dX14_skip_10 : decode cX14_skip 10 = .ok (.getfield 274, 3) := by decide +kernel
theorem dX14_skip_13 : decode cX14_skip 13 = .ok (.invokevirtual 277, 3) := by decide +kernel
theorem dX14_skip_16 : decode cX14_skip 16 = .ok (.istore_n 1, 1) := by decide +kernel
theorem dX14_skip_17 : decode cX14_skip 17 = .ok (.iload_n 1, 1) := by decide +kernel
theorem dX14_skip_18 : decode cX14_skip 18 = .ok (.ifCond .ge 13, 3) := by decide +kernel
theorem dX14_skip_31 : decode cX14_skip 31 = .ok (.aload_n 0, 1) := by decide +kernel
theorem dX14_skip_32 : decode cX14_skip 32 = .ok (.iload_n 1, 1) := by decide +kernel
theorem dX14_skip_33 : decode cX14_skip 33 = .ok (.putfield 274, 3) := by decide +kernel
theorem dX14_skip_36 : decode cX14_skip 36 = .ok (.return_, 1) := by decide +kernel
theorem dX14_skip_21 : decode cX14_skip 21 = .ok (.aload_n 0, 1) := by decide +kernel
theorem dX14_skip_22 : decode cX14_skip 22 = .ok (.iconst 1, 1) := by decide +kernel
theorem dX14_skip_23 : decode cX14_skip 23 = .ok (.aload_n 0, 1) := by decide +kernel
theorem dX14_skip_24 : decode cX14_skip 24 = .ok (.getfield 260, 3) := by decide +kernel
theorem dX14_skip_27 : decode cX14_skip 27 = .ok (.invokevirtual 280, 3) := by decide +kernel
theorem dX14_skip_30 : decode cX14_skip 30 = .ok (.return_, 1) := by decide +kernel
theorem dX14_skip_7 : decode cX14_skip 7 = .ok (.return_, 1) := by decide +kernel
def pre_X14_isBlank (σ : rS) (x0 : Int) : Prop := True
def post_X14_isBlank (σ : rS) (x0 : Int) (r : Int) : Prop := (r = 0 ∨ r = 1) ∧ (r = 1 ↔ (x0 = 32 ∨ x0 = 9 ∨ x0 = 10))
def VC_X14_isBlank (σ : rS) (x0 : Int) (Q : Int → Prop) : Prop := ((x0 = 32 → Q 1) ∧ (¬ x0 = 32 → ((x0 = 9 → Q 1) ∧ (¬ x0 = 9 → ((¬ x0 = 10 → Q 0) ∧ (x0 = 10 → Q 1))))))
set_option maxHeartbeats 400000 in
theorem vX14_isBlank (σ : rS) (x0 : Int) (hwf : rWF σ) (hx0 : rng x0) (hp : pre_X14_isBlank σ x0) : VC_X14_isBlank σ x0 (post_X14_isBlank σ x0) := by
  simp only [VC_X14_isBlank, pre_X14_isBlank, post_X14_isBlank, rng, rfk, rNMp, rF_sF, rF_sA, rF_sL, rF_sR, rA_sA, rA_sF, rA_sL, rA_sR, rR_sF, rR_sA, rR_sL, rR_sR, reduceIte, and_true, true_and, and_false, false_and, and_self] at *
  (repeat' (first | with_reducible intro _ | with_reducible apply And.intro))
  all_goals (first | assumption | omega | grind (splits := 20) [rNM_sF0])
theorem wX14_isBlank (l : Launch) (G : zG) (κ : Nat → Nat) (σ : rS) (x0 : Int) (hwf : rWF σ) (hx0 : rng x0) (Q : Int → Prop) (h : VC_X14_isBlank σ x0 Q) : rMi l G κ yX14_isBlank cX14_isBlank 1 .boolean 1 0 [iv x0] σ (fun x s => s = σ ∧ Q x) := by
  refine zMi.intro (by decide +kernel) (Nat.le_of_ble_eq_true rfl) (fun X hC hR => ?_)
  refine z_iload_n hC (pc := 0) 0 dX14_isBlank_0 rfl rfl ?_
  refine z_bipush hC (pc := 1) (v := Int32.ofInt 32) dX14_isBlank_1 (by decide) ?_
  obtain ⟨hT, hF⟩ := h
  refine y_icmp_eq hC (pc := 3) 18 hx0 (r_lit rfl) dX14_isBlank_3 (by decide) (fun c => ?_) (fun c => ?_)
  · have h := hT c
    refine z_iconst hC (pc := 18) (v := Int32.ofInt 1) dX14_isBlank_18 (by decide) ?_
    refine z_goto hC (pc := 19) 23 dX14_isBlank_19 (by decide) ?_
    exact y_reti hR dX14_isBlank_23 rfl (r_lit rfl) hwf (Nat.le_of_ble_eq_true rfl) (Nat.le_of_ble_eq_true rfl) ⟨rfl, h⟩
  · have h := hF c
    refine z_iload_n hC (pc := 6) 0 dX14_isBlank_6 rfl rfl ?_
    refine z_bipush hC (pc := 7) (v := Int32.ofInt 9) dX14_isBlank_7 (by decide) ?_
    obtain ⟨hT, hF⟩ := h
    refine y_icmp_eq hC (pc := 9) 18 hx0 (r_lit rfl) dX14_isBlank_9 (by decide) (fun c => ?_) (fun c => ?_)
    · have h := hT c
      refine z_iconst hC (pc := 18) (v := Int32.ofInt 1) dX14_isBlank_18 (by decide) ?_
      refine z_goto hC (pc := 19) 23 dX14_isBlank_19 (by decide) ?_
      exact y_reti hR dX14_isBlank_23 rfl (r_lit rfl) hwf (Nat.le_of_ble_eq_true rfl) (Nat.le_of_ble_eq_true rfl) ⟨rfl, h⟩
    · have h := hF c
      refine z_iload_n hC (pc := 12) 0 dX14_isBlank_12 rfl rfl ?_
      refine z_bipush hC (pc := 13) (v := Int32.ofInt 10) dX14_isBlank_13 (by decide) ?_
      obtain ⟨hT, hF⟩ := h
      refine y_icmp_ne hC (pc := 15) 22 hx0 (r_lit rfl) dX14_isBlank_15 (by decide) (fun c => ?_) (fun c => ?_)
      · have h := hT c
        refine z_iconst hC (pc := 22) (v := Int32.ofInt 0) dX14_isBlank_22 (by decide) ?_
        exact y_reti hR dX14_isBlank_23 rfl (r_lit rfl) hwf (Nat.le_of_ble_eq_true rfl) (Nat.le_of_ble_eq_true rfl) ⟨rfl, h⟩
      · have h := hF c
        refine z_iconst hC (pc := 18) (v := Int32.ofInt 1) dX14_isBlank_18 (by decide) ?_
        refine z_goto hC (pc := 19) 23 dX14_isBlank_19 (by decide) ?_
        exact y_reti hR dX14_isBlank_23 rfl (r_lit rfl) hwf (Nat.le_of_ble_eq_true rfl) (Nat.le_of_ble_eq_true rfl) ⟨rfl, h⟩
theorem kX14_isBlank (l : Launch) (G : zG) (κ : Nat → Nat) (σ : rS) (x0 : Int) (hwf : rWF σ) (hx0 : rng x0) (hp : pre_X14_isBlank σ x0) : rMi l G κ yX14_isBlank cX14_isBlank 1 .boolean 1 0 [iv x0] σ (fun x s => s = σ ∧ post_X14_isBlank σ x0 x) := wX14_isBlank l G κ σ x0 hwf hx0 (post_X14_isBlank σ x0) (vX14_isBlank σ x0 hwf hx0 hp) 
def pre_X14_isLetter (σ : rS) (x0 : Int) : Prop := True
def post_X14_isLetter (σ : rS) (x0 : Int) (r : Int) : Prop := (r = 0 ∨ r = 1) ∧ (r = 1 ↔ (97 ≤ x0 ∧ x0 ≤ 122 ∨ 65 ≤ x0 ∧ x0 ≤ 90 ∨ x0 = 95))
def VC_X14_isLetter (σ : rS) (x0 : Int) (Q : Int → Prop) : Prop := ((x0 < 97 → ((x0 < 65 → ((¬ x0 = 95 → Q 0) ∧ (x0 = 95 → Q 1))) ∧ (¬ x0 < 65 → ((x0 ≤ 90 → Q 1) ∧ (¬ x0 ≤ 90 → ((¬ x0 = 95 → Q 0) ∧ (x0 = 95 → Q 1))))))) ∧ (¬ x0 < 97 → ((x0 ≤ 122 → Q 1) ∧ (¬ x0 ≤ 122 → ((x0 < 65 → ((¬ x0 = 95 → Q 0) ∧ (x0 = 95 → Q 1))) ∧ (¬ x0 < 65 → ((x0 ≤ 90 → Q 1) ∧ (¬ x0 ≤ 90 → ((¬ x0 = 95 → Q 0) ∧ (x0 = 95 → Q 1))))))))))
set_option maxHeartbeats 400000 in
theorem vX14_isLetter (σ : rS) (x0 : Int) (hwf : rWF σ) (hx0 : rng x0) (hp : pre_X14_isLetter σ x0) : VC_X14_isLetter σ x0 (post_X14_isLetter σ x0) := by
  simp only [VC_X14_isLetter, pre_X14_isLetter, post_X14_isLetter, rng, rfk, rNMp, rF_sF, rF_sA, rF_sL, rF_sR, rA_sA, rA_sF, rA_sL, rA_sR, rR_sF, rR_sA, rR_sL, rR_sR, reduceIte, and_true, true_and, and_false, false_and, and_self] at *
  (repeat' (first | with_reducible intro _ | with_reducible apply And.intro))
  all_goals (first | assumption | omega | grind (splits := 20) [rNM_sF0])
theorem wX14_isLetter (l : Launch) (G : zG) (κ : Nat → Nat) (σ : rS) (x0 : Int) (hwf : rWF σ) (hx0 : rng x0) (Q : Int → Prop) (h : VC_X14_isLetter σ x0 Q) : rMi l G κ yX14_isLetter cX14_isLetter 1 .boolean 1 0 [iv x0] σ (fun x s => s = σ ∧ Q x) := by
  refine zMi.intro (by decide +kernel) (Nat.le_of_ble_eq_true rfl) (fun X hC hR => ?_)
  refine z_iload_n hC (pc := 0) 0 dX14_isLetter_0 rfl rfl ?_
  refine z_bipush hC (pc := 1) (v := Int32.ofInt 97) dX14_isLetter_1 (by decide) ?_
  obtain ⟨hT, hF⟩ := h
  refine y_icmp_lt hC (pc := 3) 12 hx0 (r_lit rfl) dX14_isLetter_3 (by decide) (fun c => ?_) (fun c => ?_)
  · have h := hT c
    refine z_iload_n hC (pc := 12) 0 dX14_isLetter_12 rfl rfl ?_
    refine z_bipush hC (pc := 13) (v := Int32.ofInt 65) dX14_isLetter_13 (by decide) ?_
    obtain ⟨hT, hF⟩ := h
    refine y_icmp_lt hC (pc := 15) 24 hx0 (r_lit rfl) dX14_isLetter_15 (by decide) (fun c => ?_) (fun c => ?_)
    · have h := hT c
      refine z_iload_n hC (pc := 24) 0 dX14_isLetter_24 rfl rfl ?_
      refine z_bipush hC (pc := 25) (v := Int32.ofInt 95) dX14_isLetter_25 (by decide) ?_
      obtain ⟨hT, hF⟩ := h
      refine y_icmp_ne hC (pc := 27) 34 hx0 (r_lit rfl) dX14_isLetter_27 (by decide) (fun c => ?_) (fun c => ?_)
      · have h := hT c
        refine z_iconst hC (pc := 34) (v := Int32.ofInt 0) dX14_isLetter_34 (by decide) ?_
        exact y_reti hR dX14_isLetter_35 rfl (r_lit rfl) hwf (Nat.le_of_ble_eq_true rfl) (Nat.le_of_ble_eq_true rfl) ⟨rfl, h⟩
      · have h := hF c
        refine z_iconst hC (pc := 30) (v := Int32.ofInt 1) dX14_isLetter_30 (by decide) ?_
        refine z_goto hC (pc := 31) 35 dX14_isLetter_31 (by decide) ?_
        exact y_reti hR dX14_isLetter_35 rfl (r_lit rfl) hwf (Nat.le_of_ble_eq_true rfl) (Nat.le_of_ble_eq_true rfl) ⟨rfl, h⟩
    · have h := hF c
      refine z_iload_n hC (pc := 18) 0 dX14_isLetter_18 rfl rfl ?_
      refine z_bipush hC (pc := 19) (v := Int32.ofInt 90) dX14_isLetter_19 (by decide) ?_
      obtain ⟨hT, hF⟩ := h
      refine y_icmp_le hC (pc := 21) 30 hx0 (r_lit rfl) dX14_isLetter_21 (by decide) (fun c => ?_) (fun c => ?_)
      · have h := hT c
        refine z_iconst hC (pc := 30) (v := Int32.ofInt 1) dX14_isLetter_30 (by decide) ?_
        refine z_goto hC (pc := 31) 35 dX14_isLetter_31 (by decide) ?_
        exact y_reti hR dX14_isLetter_35 rfl (r_lit rfl) hwf (Nat.le_of_ble_eq_true rfl) (Nat.le_of_ble_eq_true rfl) ⟨rfl, h⟩
      · have h := hF c
        refine z_iload_n hC (pc := 24) 0 dX14_isLetter_24 rfl rfl ?_
        refine z_bipush hC (pc := 25) (v := Int32.ofInt 95) dX14_isLetter_25 (by decide) ?_
        obtain ⟨hT, hF⟩ := h
        refine y_icmp_ne hC (pc := 27) 34 hx0 (r_lit rfl) dX14_isLetter_27 (by decide) (fun c => ?_) (fun c => ?_)
        · have h := hT c
          refine z_iconst hC (pc := 34) (v := Int32.ofInt 0) dX14_isLetter_34 (by decide) ?_
          exact y_reti hR dX14_isLetter_35 rfl (r_lit rfl) hwf (Nat.le_of_ble_eq_true rfl) (Nat.le_of_ble_eq_true rfl) ⟨rfl, h⟩
        · have h := hF c
          refine z_iconst hC (pc := 30) (v := Int32.ofInt 1) dX14_isLetter_30 (by decide) ?_
          refine z_goto hC (pc := 31) 35 dX14_isLetter_31 (by decide) ?_
          exact y_reti hR dX14_isLetter_35 rfl (r_lit rfl) hwf (Nat.le_of_ble_eq_true rfl) (Nat.le_of_ble_eq_true rfl) ⟨rfl, h⟩
  · have h := hF c
    refine z_iload_n hC (pc := 6) 0 dX14_isLetter_6 rfl rfl ?_
    refine z_bipush hC (pc := 7) (v := Int32.ofInt 122) dX14_isLetter_7 (by decide) ?_
    obtain ⟨hT, hF⟩ := h
    refine y_icmp_le hC (pc := 9) 30 hx0 (r_lit rfl) dX14_isLetter_9 (by decide) (fun c => ?_) (fun c => ?_)
    · have h := hT c
      refine z_iconst hC (pc := 30) (v := Int32.ofInt 1) dX14_isLetter_30 (by decide) ?_
      refine z_goto hC (pc := 31) 35 dX14_isLetter_31 (by decide) ?_
      exact y_reti hR dX14_isLetter_35 rfl (r_lit rfl) hwf (Nat.le_of_ble_eq_true rfl) (Nat.le_of_ble_eq_true rfl) ⟨rfl, h⟩
    · have h := hF c
      refine z_iload_n hC (pc := 12) 0 dX14_isLetter_12 rfl rfl ?_
      refine z_bipush hC (pc := 13) (v := Int32.ofInt 65) dX14_isLetter_13 (by decide) ?_
      obtain ⟨hT, hF⟩ := h
      refine y_icmp_lt hC (pc := 15) 24 hx0 (r_lit rfl) dX14_isLetter_15 (by decide) (fun c => ?_) (fun c => ?_)
      · have h := hT c
        refine z_iload_n hC (pc := 24) 0 dX14_isLetter_24 rfl rfl ?_
        refine z_bipush hC (pc := 25) (v := Int32.ofInt 95) dX14_isLetter_25 (by decide) ?_
        obtain ⟨hT, hF⟩ := h
        refine y_icmp_ne hC (pc := 27) 34 hx0 (r_lit rfl) dX14_isLetter_27 (by decide) (fun c => ?_) (fun c => ?_)
        · have h := hT c
          refine z_iconst hC (pc := 34) (v := Int32.ofInt 0) dX14_isLetter_34 (by decide) ?_
          exact y_reti hR dX14_isLetter_35 rfl (r_lit rfl) hwf (Nat.le_of_ble_eq_true rfl) (Nat.le_of_ble_eq_true rfl) ⟨rfl, h⟩
        · have h := hF c
          refine z_iconst hC (pc := 30) (v := Int32.ofInt 1) dX14_isLetter_30 (by decide) ?_
          refine z_goto hC (pc := 31) 35 dX14_isLetter_31 (by decide) ?_
          exact y_reti hR dX14_isLetter_35 rfl (r_lit rfl) hwf (Nat.le_of_ble_eq_true rfl) (Nat.le_of_ble_eq_true rfl) ⟨rfl, h⟩
      · have h := hF c
        refine z_iload_n hC (pc := 18) 0 dX14_isLetter_18 rfl rfl ?_
        refine z_bipush hC (pc := 19) (v := Int32.ofInt 90) dX14_isLetter_19 (by decide) ?_
        obtain ⟨hT, hF⟩ := h
        refine y_icmp_le hC (pc := 21) 30 hx0 (r_lit rfl) dX14_isLetter_21 (by decide) (fun c => ?_) (fun c => ?_)
        · have h := hT c
          refine z_iconst hC (pc := 30) (v := Int32.ofInt 1) dX14_isLetter_30 (by decide) ?_
          refine z_goto hC (pc := 31) 35 dX14_isLetter_31 (by decide) ?_
          exact y_reti hR dX14_isLetter_35 rfl (r_lit rfl) hwf (Nat.le_of_ble_eq_true rfl) (Nat.le_of_ble_eq_true rfl) ⟨rfl, h⟩
        · have h := hF c
          refine z_iload_n hC (pc := 24) 0 dX14_isLetter_24 rfl rfl ?_
          refine z_bipush hC (pc := 25) (v := Int32.ofInt 95) dX14_isLetter_25 (by decide) ?_
          obtain ⟨hT, hF⟩ := h
          refine y_icmp_ne hC (pc := 27) 34 hx0 (r_lit rfl) dX14_isLetter_27 (by decide) (fun c => ?_) (fun c => ?_)
          · have h := hT c
            refine z_iconst hC (pc := 34) (v := Int32.ofInt 0) dX14_isLetter_34 (by decide) ?_
            exact y_reti hR dX14_isLetter_35 rfl (r_lit rfl) hwf (Nat.le_of_ble_eq_true rfl) (Nat.le_of_ble_eq_true rfl) ⟨rfl, h⟩
          · have h := hF c
            refine z_iconst hC (pc := 30) (v := Int32.ofInt 1) dX14_isLetter_30 (by decide) ?_
            refine z_goto hC (pc := 31) 35 dX14_isLetter_31 (by decide) ?_
            exact y_reti hR dX14_isLetter_35 rfl (r_lit rfl) hwf (Nat.le_of_ble_eq_true rfl) (Nat.le_of_ble_eq_true rfl) ⟨rfl, h⟩
theorem kX14_isLetter (l : Launch) (G : zG) (κ : Nat → Nat) (σ : rS) (x0 : Int) (hwf : rWF σ) (hx0 : rng x0) (hp : pre_X14_isLetter σ x0) : rMi l G κ yX14_isLetter cX14_isLetter 1 .boolean 1 0 [iv x0] σ (fun x s => s = σ ∧ post_X14_isLetter σ x0 x) := wX14_isLetter l G κ σ x0 hwf hx0 (post_X14_isLetter σ x0) (vX14_isLetter σ x0 hwf hx0 hp) 
def pre_X14_isDigit (σ : rS) (x0 : Int) : Prop := True
def post_X14_isDigit (σ : rS) (x0 : Int) (r : Int) : Prop := (r = 0 ∨ r = 1) ∧ (r = 1 ↔ (48 ≤ x0 ∧ x0 ≤ 57))
def VC_X14_isDigit (σ : rS) (x0 : Int) (Q : Int → Prop) : Prop := ((x0 < 48 → Q 0) ∧ (¬ x0 < 48 → ((57 < x0 → Q 0) ∧ (¬ 57 < x0 → Q 1))))
set_option maxHeartbeats 400000 in
theorem vX14_isDigit (σ : rS) (x0 : Int) (hwf : rWF σ) (hx0 : rng x0) (hp : pre_X14_isDigit σ x0) : VC_X14_isDigit σ x0 (post_X14_isDigit σ x0) := by
  simp only [VC_X14_isDigit, pre_X14_isDigit, post_X14_isDigit, rng, rfk, rNMp, rF_sF, rF_sA, rF_sL, rF_sR, rA_sA, rA_sF, rA_sL, rA_sR, rR_sF, rR_sA, rR_sL, rR_sR, reduceIte, and_true, true_and, and_false, false_and, and_self] at *
  (repeat' (first | with_reducible intro _ | with_reducible apply And.intro))
  all_goals (first | assumption | omega | grind (splits := 20) [rNM_sF0])
theorem wX14_isDigit (l : Launch) (G : zG) (κ : Nat → Nat) (σ : rS) (x0 : Int) (hwf : rWF σ) (hx0 : rng x0) (Q : Int → Prop) (h : VC_X14_isDigit σ x0 Q) : rMi l G κ yX14_isDigit cX14_isDigit 1 .boolean 1 0 [iv x0] σ (fun x s => s = σ ∧ Q x) := by
  refine zMi.intro (by decide +kernel) (Nat.le_of_ble_eq_true rfl) (fun X hC hR => ?_)
  refine z_iload_n hC (pc := 0) 0 dX14_isDigit_0 rfl rfl ?_
  refine z_bipush hC (pc := 1) (v := Int32.ofInt 48) dX14_isDigit_1 (by decide) ?_
  obtain ⟨hT, hF⟩ := h
  refine y_icmp_lt hC (pc := 3) 16 hx0 (r_lit rfl) dX14_isDigit_3 (by decide) (fun c => ?_) (fun c => ?_)
  · have h := hT c
    refine z_iconst hC (pc := 16) (v := Int32.ofInt 0) dX14_isDigit_16 (by decide) ?_
    exact y_reti hR dX14_isDigit_17 rfl (r_lit rfl) hwf (Nat.le_of_ble_eq_true rfl) (Nat.le_of_ble_eq_true rfl) ⟨rfl, h⟩
  · have h := hF c
    refine z_iload_n hC (pc := 6) 0 dX14_isDigit_6 rfl rfl ?_
    refine z_bipush hC (pc := 7) (v := Int32.ofInt 57) dX14_isDigit_7 (by decide) ?_
    obtain ⟨hT, hF⟩ := h
    refine y_icmp_gt hC (pc := 9) 16 hx0 (r_lit rfl) dX14_isDigit_9 (by decide) (fun c => ?_) (fun c => ?_)
    · have h := hT c
      refine z_iconst hC (pc := 16) (v := Int32.ofInt 0) dX14_isDigit_16 (by decide) ?_
      exact y_reti hR dX14_isDigit_17 rfl (r_lit rfl) hwf (Nat.le_of_ble_eq_true rfl) (Nat.le_of_ble_eq_true rfl) ⟨rfl, h⟩
    · have h := hF c
      refine z_iconst hC (pc := 12) (v := Int32.ofInt 1) dX14_isDigit_12 (by decide) ?_
      refine z_goto hC (pc := 13) 17 dX14_isDigit_13 (by decide) ?_
      exact y_reti hR dX14_isDigit_17 rfl (r_lit rfl) hwf (Nat.le_of_ble_eq_true rfl) (Nat.le_of_ble_eq_true rfl) ⟨rfl, h⟩
theorem kX14_isDigit (l : Launch) (G : zG) (κ : Nat → Nat) (σ : rS) (x0 : Int) (hwf : rWF σ) (hx0 : rng x0) (hp : pre_X14_isDigit σ x0) : rMi l G κ yX14_isDigit cX14_isDigit 1 .boolean 1 0 [iv x0] σ (fun x s => s = σ ∧ post_X14_isDigit σ x0 x) := wX14_isDigit l G κ σ x0 hwf hx0 (post_X14_isDigit σ x0) (vX14_isDigit σ x0 hwf hx0 hp) 
def pre_X14_fc (σ : rS) (x1 : Int) : Prop := 0 ≤ x1 ∧ (rF σ 0 16) ≤ 4000 ∧ rfk (rR σ 15)
def post_X14_fc (σ : rS) (x1 : Int) (r : Int) : Prop := (x1 < (rF σ 0 16) → r = (rA σ (rR σ 15) (x1))) ∧ ((rF σ 0 16) ≤ x1 → r = -1)
def VC_X14_fc (σ : rS) (x1 : Int) (Q : Int → Prop) : Prop := (rng (rF σ 0 16) → (((rF σ 0 16) ≤ x1 → Q (-1)) ∧ (¬ (rF σ 0 16) ≤ x1 → rfk (rR σ 15) ∧ (0 ≤ x1 ∧ x1 < 4000) ∧ (rng (rA σ (rR σ 15) x1) → Q (rA σ (rR σ 15) x1)))))
set_option maxHeartbeats 400000 in
theorem vX14_fc (σ : rS) (x1 : Int) (hwf : rWF σ) (hx1 : rng x1) (hp : pre_X14_fc σ x1) : VC_X14_fc σ x1 (post_X14_fc σ x1) := by
  simp only [VC_X14_fc, pre_X14_fc, post_X14_fc, rng, rfk, rNMp, rF_sF, rF_sA, rF_sL, rF_sR, rA_sA, rA_sF, rA_sL, rA_sR, rR_sF, rR_sA, rR_sL, rR_sR, reduceIte, and_true, true_and, and_false, false_and, and_self] at *
  (repeat' (first | with_reducible intro _ | with_reducible apply And.intro))
  all_goals (first | assumption | omega | grind (splits := 20) [rNM_sF0])
theorem wX14_fc (l : Launch) (G : zG) (κ : Nat → Nat) (σ : rS) (x1 : Int) (hwf : rWF σ) (hx1 : rng x1) (Q : Int → Prop) (h : VC_X14_fc σ x1 Q) : rMi l G κ yX14_fc cX14_fc 2 .int 1 0 [.ref (κ 0), iv x1] σ (fun x s => s = σ ∧ Q x) := by
  refine zMi.intro (by decide +kernel) (Nat.le_of_ble_eq_true rfl) (fun X hC hR => ?_)
  refine z_iload_n hC (pc := 0) 1 dX14_fc_0 rfl rfl ?_
  refine z_aload_n hC (pc := 1) 0 dX14_fc_1 rfl rfl ?_
  refine y_get hC (pc := 2) zf14 rOb_0 16 (v := iv (rF σ 0 16)) dX14_fc_2 zw2483 (rv_i (Or.inl rfl) rfl) (kk := ?_)
  have h := h (hwf.f _ _)
  obtain ⟨hT, hF⟩ := h
  refine y_icmp_ge hC (pc := 5) 17 hx1 (hwf.f _ _) dX14_fc_5 (by decide) (fun c => ?_) (fun c => ?_)
  · have h := hT c
    refine z_iconst hC (pc := 17) (v := Int32.ofInt (-1)) dX14_fc_17 (by decide) ?_
    exact y_reti hR dX14_fc_18 rfl (r_lit rfl) hwf (Nat.le_of_ble_eq_true rfl) (Nat.le_of_ble_eq_true rfl) ⟨rfl, h⟩
  · have h := hF c
    refine z_aload_n hC (pc := 8) 0 dX14_fc_8 rfl rfl ?_
    obtain ⟨g10, h⟩ := h
    refine y_get hC (pc := 9) zf14 rOb_0 15 (v := .ref (κ (rR σ 15))) dX14_fc_9 zw2482 (rv_b rfl rfl g10) (kk := ?_)
    refine z_iload_n hC (pc := 12) 1 dX14_fc_12 rfl rfl ?_
    obtain ⟨b11, h⟩ := h
    refine y_bald hC (pc := 13) (rAr_f g10) dX14_fc_13 b11 (v := (rA σ (rR σ 15) x1)) rfl (kk := ?_)
    have h := h (hwf.a _ _)
    refine z_goto hC (pc := 14) 18 dX14_fc_14 (by decide) ?_
    exact y_reti hR dX14_fc_18 rfl (hwf.a _ _) hwf (Nat.le_of_ble_eq_true rfl) (Nat.le_of_ble_eq_true rfl) ⟨rfl, h⟩
theorem kX14_fc (l : Launch) (G : zG) (κ : Nat → Nat) (σ : rS) (x1 : Int) (hwf : rWF σ) (hx1 : rng x1) (hp : pre_X14_fc σ x1) : rMi l G κ yX14_fc cX14_fc 2 .int 1 0 [.ref (κ 0), iv x1] σ (fun x s => s = σ ∧ post_X14_fc σ x1 x) := wX14_fc l G κ σ x1 hwf hx1 (post_X14_fc σ x1) (vX14_fc σ x1 hwf hx1 hp) 
def pre_X14_here (σ : rS)  : Prop := 0 ≤ (rF σ 0 29) ∧ (rF σ 0 28) ≤ 4001
def post_X14_here (σ : rS)  (r : Int) : Prop := ((rF σ 0 29) < (rF σ 0 28) → r = (rA σ 1026 ((rF σ 0 29)))) ∧ ((rF σ 0 28) ≤ (rF σ 0 29) → r = -1)
def VC_X14_here (σ : rS) (Q : Int → Prop) : Prop := (rng (rF σ 0 29) → (rng (rF σ 0 28) → (((rF σ 0 28) ≤ (rF σ 0 29) → Q (-1)) ∧ (¬ (rF σ 0 28) ≤ (rF σ 0 29) → (0 ≤ (rF σ 0 29) ∧ (rF σ 0 29) < 4001) ∧ (rng (rA σ 1026 (rF σ 0 29)) → Q (rA σ 1026 (rF σ 0 29)))))))
set_option maxHeartbeats 400000 in
theorem vX14_here (σ : rS) (hwf : rWF σ) (hp : pre_X14_here σ ) : VC_X14_here σ (post_X14_here σ ) := by
  simp only [VC_X14_here, pre_X14_here, post_X14_here, rng, rfk, rNMp, rF_sF, rF_sA, rF_sL, rF_sR, rA_sA, rA_sF, rA_sL, rA_sR, rR_sF, rR_sA, rR_sL, rR_sR, reduceIte, and_true, true_and, and_false, false_and, and_self] at *
  (repeat' (first | with_reducible intro _ | with_reducible apply And.intro))
  all_goals (first | assumption | omega | grind (splits := 20) [rNM_sF0])
theorem wX14_here (l : Launch) (G : zG) (κ : Nat → Nat) (σ : rS) (hwf : rWF σ) (Q : Int → Prop) (h : VC_X14_here σ Q) : rMi l G κ yX14_here cX14_here 1 .int 1 0 [.ref (κ 0)] σ (fun x s => s = σ ∧ Q x) := by
  refine zMi.intro (by decide +kernel) (Nat.le_of_ble_eq_true rfl) (fun X hC hR => ?_)
  refine z_aload_n hC (pc := 0) 0 dX14_here_0 rfl rfl ?_
  refine y_get hC (pc := 1) zf14 rOb_0 29 (v := iv (rF σ 0 29)) dX14_here_1 zw2496 (rv_i (Or.inl rfl) rfl) (kk := ?_)
  have h := h (hwf.f _ _)
  refine z_aload_n hC (pc := 4) 0 dX14_here_4 rfl rfl ?_
  refine y_get hC (pc := 5) zf14 rOb_0 28 (v := iv (rF σ 0 28)) dX14_here_5 zw2495 (rv_i (Or.inl rfl) rfl) (kk := ?_)
  have h := h (hwf.f _ _)
  obtain ⟨hT, hF⟩ := h
  refine y_icmp_ge hC (pc := 8) 23 (hwf.f _ _) (hwf.f _ _) dX14_here_8 (by decide) (fun c => ?_) (fun c => ?_)
  · have h := hT c
    refine z_iconst hC (pc := 23) (v := Int32.ofInt (-1)) dX14_here_23 (by decide) ?_
    exact y_reti hR dX14_here_24 rfl (r_lit rfl) hwf (Nat.le_of_ble_eq_true rfl) (Nat.le_of_ble_eq_true rfl) ⟨rfl, h⟩
  · have h := hF c
    refine z_aload_n hC (pc := 11) 0 dX14_here_11 rfl rfl ?_
    refine y_get hC (pc := 12) zf14 rOb_0 26 (v := .ref (κ 1026)) dX14_here_12 zw2493 (rv_c rfl) (kk := ?_)
    refine z_aload_n hC (pc := 15) 0 dX14_here_15 rfl rfl ?_
    refine y_get hC (pc := 16) zf14 rOb_0 29 (v := iv (rF σ 0 29)) dX14_here_16 zw2496 (rv_i (Or.inl rfl) rfl) (kk := ?_)
    obtain ⟨b10, h⟩ := h
    refine y_bald hC (pc := 19) (rAr_m rfl) dX14_here_19 b10 (v := (rA σ 1026 (rF σ 0 29))) rfl (kk := ?_)
    have h := h (hwf.a _ _)
    refine z_goto hC (pc := 20) 24 dX14_here_20 (by decide) ?_
    exact y_reti hR dX14_here_24 rfl (hwf.a _ _) hwf (Nat.le_of_ble_eq_true rfl) (Nat.le_of_ble_eq_true rfl) ⟨rfl, h⟩
theorem kX14_here (l : Launch) (G : zG) (κ : Nat → Nat) (σ : rS) (hwf : rWF σ) (hp : pre_X14_here σ ) : rMi l G κ yX14_here cX14_here 1 .int 1 0 [.ref (κ 0)] σ (fun x s => s = σ ∧ post_X14_here σ x) := wX14_here l G κ σ hwf (post_X14_here σ ) (vX14_here σ hwf hp) 
def pre_X14_place (σ : rS)  : Prop := 0 ≤ (rF σ 0 29) ∧ (rF σ 0 28) ≤ 4001 ∧ TPRp σ
def post_X14_place (σ : rS)  (r : Int) : Prop := 0 ≤ r ∧ r ≤ 4000
def VC_X14_place (σ : rS) (Q : Int → Prop) : Prop := (rng (rF σ 0 29) → (rng (rF σ 0 28) → (((rF σ 0 28) ≤ (rF σ 0 29) → (rng (rF σ 0 30) → Q (rF σ 0 30))) ∧ (¬ (rF σ 0 28) ≤ (rF σ 0 29) → (0 ≤ (rF σ 0 29) ∧ (rF σ 0 29) < 4001) ∧ (rng (rA σ 1027 (rF σ 0 29)) → Q (rA σ 1027 (rF σ 0 29)))))))
set_option maxHeartbeats 400000 in
theorem vX14_place (σ : rS) (hwf : rWF σ) (hp : pre_X14_place σ ) : VC_X14_place σ (post_X14_place σ ) := by
  simp only [VC_X14_place, pre_X14_place, post_X14_place, TPRp, rng, rfk, rNMp, rF_sF, rF_sA, rF_sL, rF_sR, rA_sA, rA_sF, rA_sL, rA_sR, rR_sF, rR_sA, rR_sL, rR_sR, reduceIte, and_true, true_and, and_false, false_and, and_self, TPRp_sL, TPRp_sF0, TPRp_sF3, TPRp_sF10, TPRp_sF11, TPRp_sF12, TPRp_sF13, TPRp_sF14, TPRp_sF16, TPRp_sF17, TPRp_sF18, TPRp_sF19, TPRp_sF21, TPRp_sF22, TPRp_sF23, TPRp_sF24, TPRp_sF25, TPRp_sF29, TPRp_sF31, TPRp_sF32, TPRp_sF33, TPRp_sF38, TPRp_sF39, TPRp_sF41, TPRp_sF42, TPRp_sF43, TPRp_sF44, TPRp_sF45, TPRp_sF60, TPRp_sF65, TPRp_sF66, TPRp_sF67, TPRp_sF68, TPRp_sF70, TPRp_sF71, TPRp_sF72, TPRp_sF73, TPRp_sF74, TPRp_sF80, TPRp_sF81, TPRp_sF82, TPRp_sF83, TPRp_sF88, TPRp_sF92, TPRp_sF94, TPRp_sF96, TPRp_sF97, TPRp_sF98, TPRp_sF99, TPRp_sF100, TPRp_sF101, TPRp_sF103, TPRp_sF104, TPRp_sF112, TPRp_sF113, TPRp_sF118, TPRp_sF119, TPRp_sF122, TPRp_sF123, TPRp_sF135, TPRp_sF137, TPRp_sA1, TPRp_sA2, TPRp_sA5, TPRp_sA20, TPRp_sA26, TPRp_sA34, TPRp_sA35, TPRp_sA36, TPRp_sA37, TPRp_sA40, TPRp_sA46, TPRp_sA47, TPRp_sA48, TPRp_sA49, TPRp_sA50, TPRp_sA51, TPRp_sA52, TPRp_sA53, TPRp_sA54, TPRp_sA55, TPRp_sA56, TPRp_sA57, TPRp_sA58, TPRp_sA59, TPRp_sA61, TPRp_sA62, TPRp_sA63, TPRp_sA64, TPRp_sA69, TPRp_sA75, TPRp_sA76, TPRp_sA77, TPRp_sA78, TPRp_sA79, TPRp_sA84, TPRp_sA85, TPRp_sA86, TPRp_sA87, TPRp_sA89, TPRp_sA90, TPRp_sA91, TPRp_sA93, TPRp_sA102, TPRp_sA105, TPRp_sA106, TPRp_sA107, TPRp_sA108, TPRp_sA109, TPRp_sA110, TPRp_sA111, TPRp_sA114, TPRp_sA115, TPRp_sA116, TPRp_sA117, TPRp_sA120, TPRp_sA121, TPRp_sA124, TPRp_sA125, TPRp_sA126, TPRp_sA127, TPRp_sA128, TPRp_sA129, TPRp_sA136, TPRp_sA138, TPRp_gA0, TPRp_gA1, TPRp_gA2, TPRp_gA3, TPRp_gA4, TPRp_gA5, TPRp_gA6, TPRp_gA8, TPRp_gA10, TPRp_gA11, TPRp_gA15, TPRp_gA16, TPRp_gA17, TPRp_gA18, TPRp_gA19, TPRp_gA20, TPRp_gA21, TPRp_gA22, TPRp_gA23, TPRp_gA24, TPRp_gA25, TPRp_gA26, TPRp_gA29, TPRp_gA30, TPRp_gA31, TPRp_gA33, TPRp_gA34, TPRp_gA35, TPRp_gA36, TPRp_gA37, TPRp_sF7, TPRp_sF9] at *
  (repeat' (first | with_reducible intro _ | with_reducible apply And.intro))
  all_goals (first | assumption | omega | grind (splits := 20) [rNM_sF0])
theorem wX14_place (l : Launch) (G : zG) (κ : Nat → Nat) (σ : rS) (hwf : rWF σ) (Q : Int → Prop) (h : VC_X14_place σ Q) : rMi l G κ yX14_place cX14_place 1 .int 1 0 [.ref (κ 0)] σ (fun x s => s = σ ∧ Q x) := by
  refine zMi.intro (by decide +kernel) (Nat.le_of_ble_eq_true rfl) (fun X hC hR => ?_)
  refine z_aload_n hC (pc := 0) 0 dX14_place_0 rfl rfl ?_
  refine y_get hC (pc := 1) zf14 rOb_0 29 (v := iv (rF σ 0 29)) dX14_place_1 zw2496 (rv_i (Or.inl rfl) rfl) (kk := ?_)
  have h := h (hwf.f _ _)
  refine z_aload_n hC (pc := 4) 0 dX14_place_4 rfl rfl ?_
  refine y_get hC (pc := 5) zf14 rOb_0 28 (v := iv (rF σ 0 28)) dX14_place_5 zw2495 (rv_i (Or.inl rfl) rfl) (kk := ?_)
  have h := h (hwf.f _ _)
  obtain ⟨hT, hF⟩ := h
  refine y_icmp_ge hC (pc := 8) 23 (hwf.f _ _) (hwf.f _ _) dX14_place_8 (by decide) (fun c => ?_) (fun c => ?_)
  · have h := hT c
    refine z_aload_n hC (pc := 23) 0 dX14_place_23 rfl rfl ?_
    refine y_get hC (pc := 24) zf14 rOb_0 30 (v := iv (rF σ 0 30)) dX14_place_24 zw2497 (rv_i (Or.inl rfl) rfl) (kk := ?_)
    have h := h (hwf.f _ _)
    exact y_reti hR dX14_place_27 rfl (hwf.f _ _) hwf (Nat.le_of_ble_eq_true rfl) (Nat.le_of_ble_eq_true rfl) ⟨rfl, h⟩
  · have h := hF c
    refine z_aload_n hC (pc := 11) 0 dX14_place_11 rfl rfl ?_
    refine y_get hC (pc := 12) zf14 rOb_0 27 (v := .ref (κ 1027)) dX14_place_12 zw2494 (rv_c rfl) (kk := ?_)
    refine z_aload_n hC (pc := 15) 0 dX14_place_15 rfl rfl ?_
    refine y_get hC (pc := 16) zf14 rOb_0 29 (v := iv (rF σ 0 29)) dX14_place_16 zw2496 (rv_i (Or.inl rfl) rfl) (kk := ?_)
    obtain ⟨b10, h⟩ := h
    refine y_iald hC (pc := 19) (rAr_m rfl) dX14_place_19 b10 (v := (rA σ 1027 (rF σ 0 29))) rfl (kk := ?_)
    have h := h (hwf.a _ _)
    refine z_goto hC (pc := 20) 27 dX14_place_20 (by decide) ?_
    exact y_reti hR dX14_place_27 rfl (hwf.a _ _) hwf (Nat.le_of_ble_eq_true rfl) (Nat.le_of_ble_eq_true rfl) ⟨rfl, h⟩
theorem kX14_place (l : Launch) (G : zG) (κ : Nat → Nat) (σ : rS) (hwf : rWF σ) (hp : pre_X14_place σ ) : rMi l G κ yX14_place cX14_place 1 .int 1 0 [.ref (κ 0)] σ (fun x s => s = σ ∧ post_X14_place σ x) := wX14_place l G κ σ hwf (post_X14_place σ ) (vX14_place σ hwf hp) 
def pre_X14_bad (σ : rS) (x1 : Int) (x2 : Int) : Prop := True
def post_X14_bad (σ : rS) (x1 : Int) (x2 : Int) (σ' : rS) : Prop := ((rF σ 0 10) ≠ 0 → (rF σ' 0 10) = (rF σ 0 10)) ∧ ((rF σ 0 10) = 0 → (rF σ' 0 10) = x1)
def VC_X14_bad (σ : rS) (x1 : Int) (x2 : Int) (Q : rS → Prop) : Prop := (rng (rF σ 0 10) → (((rF σ 0 10) = 0 → (rng (rF σ 0 14) → Q (sF (sF (sF σ 0 10 x1) 0 11 (rF σ 0 14)) 0 12 x2))) ∧ (¬ (rF σ 0 10) = 0 → Q σ)))
set_option maxHeartbeats 400000 in
theorem vX14_bad (σ : rS) (x1 : Int) (x2 : Int) (hwf : rWF σ) (hx1 : rng x1) (hx2 : rng x2) (hp : pre_X14_bad σ x1 x2) : VC_X14_bad σ x1 x2 (post_X14_bad σ x1 x2) := by
  simp only [VC_X14_bad, pre_X14_bad, post_X14_bad, rng, rfk, rNMp, rF_sF, rF_sA, rF_sL, rF_sR, rA_sA, rA_sF, rA_sL, rA_sR, rR_sF, rR_sA, rR_sL, rR_sR, reduceIte, and_true, true_and, and_false, false_and, and_self] at *
  (repeat' (first | with_reducible intro _ | with_reducible apply And.intro))
  all_goals (first | assumption | omega | grind (splits := 20) [rNM_sF0])
theorem wX14_bad (l : Launch) (G : zG) (κ : Nat → Nat) (σ : rS) (x1 : Int) (x2 : Int) (hwf : rWF σ) (hx1 : rng x1) (hx2 : rng x2) (Q : rS → Prop) (h : VC_X14_bad σ x1 x2 Q) : rMv l G κ yX14_bad cX14_bad 3 1 0 [.ref (κ 0), iv x1, iv x2] σ (fun s => rKeep 0x1c00 0 0 0 0 σ s ∧ Q s) := by
  refine zMv.intro (by decide +kernel) (Nat.le_of_ble_eq_true rfl) (fun X hC hR => ?_)
  refine z_aload_n hC (pc := 0) 0 dX14_bad_0 rfl rfl ?_
  refine y_get hC (pc := 1) zf14 rOb_0 10 (v := iv (rF σ 0 10)) dX14_bad_1 zw2478 (rv_i (Or.inl rfl) rfl) (kk := ?_)
  have h := h (hwf.f _ _)
  obtain ⟨hT, hF⟩ := h
  refine y_if_eq hC (pc := 4) 8 (hwf.f _ _) dX14_bad_4 (by decide) (fun c => ?_) (fun c => ?_)
  · have h := hT c
    refine z_aload_n hC (pc := 8) 0 dX14_bad_8 rfl rfl ?_
    refine z_iload_n hC (pc := 9) 1 dX14_bad_9 rfl rfl ?_
    refine y_putI hC (pc := 10) zf14 rOb_0 10 (x := x1) dX14_bad_10 zw2478 (Or.inl rfl) rfl rfl (kk := ?_)
    have W10 := hwf.sF (q := 0) (f := 10) (x := x1) hx1
    refine z_aload_n hC (pc := 13) 0 dX14_bad_13 rfl rfl ?_
    refine z_aload_n hC (pc := 14) 0 dX14_bad_14 rfl rfl ?_
    refine y_get hC (pc := 15) zf14 rOb_0 14 (v := iv (rF σ 0 14)) dX14_bad_15 zw2481 (rv_i (Or.inl rfl) ((F_sF_ne (by decide)).trans rfl)) (kk := ?_)
    have h := h (hwf.f _ _)
    refine y_putI hC (pc := 18) zf14 rOb_0 11 (x := (rF σ 0 14)) dX14_bad_18 zw2479 (Or.inl rfl) rfl rfl (kk := ?_)
    have W11 := W10.sF (q := 0) (f := 11) (x := (rF σ 0 14)) (hwf.f _ _)
    refine z_aload_n hC (pc := 21) 0 dX14_bad_21 rfl rfl ?_
    refine z_iload_n hC (pc := 22) 2 dX14_bad_22 rfl rfl ?_
    refine y_putI hC (pc := 23) zf14 rOb_0 12 (x := x2) dX14_bad_23 zw2480 (Or.inl rfl) rfl rfl (kk := ?_)
    have W12 := W11.sF (q := 0) (f := 12) (x := x2) hx2
    exact y_retv hR dX14_bad_26 W12 (Nat.le_of_ble_eq_true rfl) (Nat.le_of_ble_eq_true rfl) ⟨(rKeep.tr (rKeep.tr (rKeep.tr rKeep.rf (rKeep.sF0 (f := 10)) rfl rfl rfl rfl rfl) (rKeep.sF0 (f := 11)) rfl rfl rfl rfl rfl) (rKeep.sF0 (f := 12)) rfl rfl rfl rfl rfl), h⟩
  · have h := hF c
    exact y_retv hR dX14_bad_7 hwf (Nat.le_of_ble_eq_true rfl) (Nat.le_of_ble_eq_true rfl) ⟨rKeep.rf, h⟩
theorem kX14_bad (l : Launch) (G : zG) (κ : Nat → Nat) (σ : rS) (x1 : Int) (x2 : Int) (hwf : rWF σ) (hx1 : rng x1) (hx2 : rng x2) (hp : pre_X14_bad σ x1 x2) : rMv l G κ yX14_bad cX14_bad 3 1 0 [.ref (κ 0), iv x1, iv x2] σ (fun s => rKeep 0x1c00 0 0 0 0 σ s ∧ post_X14_bad σ x1 x2 s) := wX14_bad l G κ σ x1 x2 hwf hx1 hx2 (post_X14_bad σ x1 x2) (vX14_bad σ x1 x2 hwf hx1 hx2 hp) 
def pre_X14_blanks (σ : rS)  : Prop := 0 ≤ (rF σ 0 29) ∧ (rF σ 0 29) ≤ 100000 ∧ (rF σ 0 28) ≤ 4001
def post_X14_blanks (σ : rS)  (σ' : rS) : Prop := (rF σ 0 29) ≤ (rF σ' 0 29) ∧ ((rF σ' 0 29) ≤ (rF σ 0 28) ∨ (rF σ' 0 29) = (rF σ 0 29))
def inv_X14_blanks_0 (σ : rS)   (s : rS)  : Prop := (rF σ 0 29) ≤ (rF s 0 29) ∧ ((rF s 0 29) ≤ (rF σ 0 28) ∨ (rF s 0 29) = (rF σ 0 29))
def mu_X14_blanks_0 (σ : rS)  (s : rS)  : Nat := (1 + (4001 - (rF s 0 29)).toNat)
def VC_X14_blanks (σ : rS) (Q : rS → Prop) : Prop := (inv_X14_blanks_0 σ σ)
def VC_X14_blanks_0 (σ : rS) (Q : rS → Prop) : Prop := ∀ (s10 : rS), rWF s10 → rF s10 0 28 = rF σ 0 28 → inv_X14_blanks_0 σ s10 → ((rng (rF s10 0 29) → (rng (rF s10 0 28) → (((rF s10 0 28) ≤ (rF s10 0 29) → Q s10) ∧ (¬ (rF s10 0 28) ≤ (rF s10 0 29) → (0 ≤ (rF s10 0 29) ∧ (rF s10 0 29) < 4001) ∧ (rng (rA s10 1026 (rF s10 0 29)) → pre_X14_isBlank s10 (rA s10 1026 (rF s10 0 29)) ∧ (∀ (x14 : Int), rng x14 → post_X14_isBlank s10 (rA s10 1026 (rF s10 0 29)) x14 → ((x14 = 0 → Q s10) ∧ (¬ x14 = 0 → rng ((rF s10 0 29) + 1) ∧ (inv_X14_blanks_0 σ (sF s10 0 29 ((rF s10 0 29) + 1)) ∧ (mu_X14_blanks_0 σ (sF s10 0 29 ((rF s10 0 29) + 1)) ) < (mu_X14_blanks_0 σ s10 )))))))))))
def VC_X14_blanks_0m (σ : rS) : Prop := ∀ (s10 : rS), rWF s10 → rF s10 0 28 = rF σ 0 28 → inv_X14_blanks_0 σ s10 → 0 < (mu_X14_blanks_0 σ s10 )
set_option maxHeartbeats 400000 in
theorem vX14_blanks (σ : rS) (hwf : rWF σ) (hp : pre_X14_blanks σ ) : VC_X14_blanks σ (post_X14_blanks σ ) := by
  simp only [VC_X14_blanks, pre_X14_blanks, post_X14_blanks, inv_X14_blanks_0, mu_X14_blanks_0, pre_X14_isBlank, post_X14_isBlank, rng, rfk, rNMp, rF_sF, rF_sA, rF_sL, rF_sR, rA_sA, rA_sF, rA_sL, rA_sR, rR_sF, rR_sA, rR_sL, rR_sR, reduceIte, and_true, true_and, and_false, false_and, and_self] at *
  (repeat' (first | with_reducible intro _ | with_reducible apply And.intro))
  all_goals (first | assumption | omega | grind (splits := 20) [rNM_sF0])
set_option maxHeartbeats 400000 in
theorem vX14_blanks_0 (σ : rS) (hwf : rWF σ) (hp : pre_X14_blanks σ ) : VC_X14_blanks_0 σ (post_X14_blanks σ ) := by
  simp only [VC_X14_blanks_0, pre_X14_blanks, post_X14_blanks, inv_X14_blanks_0, mu_X14_blanks_0, pre_X14_isBlank, post_X14_isBlank, rng, rfk, rNMp, rF_sF, rF_sA, rF_sL, rF_sR, rA_sA, rA_sF, rA_sL, rA_sR, rR_sF, rR_sA, rR_sL, rR_sR, reduceIte, and_true, true_and, and_false, false_and, and_self] at *
  (repeat' (first | with_reducible intro _ | with_reducible apply And.intro))
  all_goals (first | assumption | omega | grind (splits := 20) [rNM_sF0])
set_option maxHeartbeats 400000 in
theorem vX14_blanks_0m (σ : rS) (hwf : rWF σ) (hp : pre_X14_blanks σ ) : VC_X14_blanks_0m σ := by
  simp only [VC_X14_blanks_0m, pre_X14_blanks, post_X14_blanks, inv_X14_blanks_0, mu_X14_blanks_0, pre_X14_isBlank, post_X14_isBlank, rng, rfk, rNMp, rF_sF, rF_sA, rF_sL, rF_sR, rA_sA, rA_sF, rA_sL, rA_sR, rR_sF, rR_sA, rR_sL, rR_sR, reduceIte, and_true, true_and, and_false, false_and, and_self] at *
  (repeat' (first | with_reducible intro _ | with_reducible apply And.intro))
  all_goals (first | assumption | omega | grind (splits := 20) [rNM_sF0])
theorem wX14_blanks (l : Launch) (G : zG) (κ : Nat → Nat) (σ : rS) (hwf : rWF σ) (Q : rS → Prop) (h : VC_X14_blanks σ Q) (h_0 : VC_X14_blanks_0 σ Q) (h_0m : VC_X14_blanks_0m σ ) : rMv l G κ yX14_blanks cX14_blanks 1 2 20 [.ref (κ 0)] σ (fun s => rKeep 0x20000000 0 0 0 0 σ s ∧ Q s) := by
  refine zMv.intro (by decide +kernel) (Nat.le_of_ble_eq_true rfl) (fun X hC hR => ?_)
  have j0 : ∀ (d0 : Nat), ∀ (s10 : rS) , rWF s10 → rKeep 0x20000000 0 0 0 0 σ s10 → inv_X14_blanks_0 σ s10 → (mu_X14_blanks_0 σ  s10 ) ≤ d0 → zS X G 1 (rW G κ s10) [(0, .ref (κ 0))] 0 0 0 [] := by
    intro d0
    induction d0 with
    | zero =>
      intro s10 Ws10 kJ hI hmu
      exact absurd hmu (by have := h_0m  s10  Ws10  (kJ.F rfl) hI; omega)
    | succ d0 ih0 =>
      intro s10 Ws10 kJ hI hmu0
      have h := h_0  s10  Ws10  (kJ.F rfl) hI
      refine z_aload_n hC (pc := 0) 0 dX14_blanks_0 rfl rfl ?_
      refine y_get hC (pc := 1) zf14 rOb_0 29 (v := iv (rF s10 0 29)) dX14_blanks_1 zw2496 (rv_i (Or.inl rfl) rfl) (kk := ?_)
      have h := h (Ws10.f _ _)
      refine z_aload_n hC (pc := 4) 0 dX14_blanks_4 rfl rfl ?_
      refine y_get hC (pc := 5) zf14 rOb_0 28 (v := iv (rF s10 0 28)) dX14_blanks_5 zw2495 (rv_i (Or.inl rfl) rfl) (kk := ?_)
      have h := h (Ws10.f _ _)
      obtain ⟨hT, hF⟩ := h
      refine y_icmp_ge hC (pc := 8) 39 (Ws10.f _ _) (Ws10.f _ _) dX14_blanks_8 (by decide) (fun c => ?_) (fun c => ?_)
      · have h := hT c
        exact y_retv hR dX14_blanks_39 Ws10 (Nat.le_of_ble_eq_true rfl) (Nat.le_of_ble_eq_true rfl) ⟨(rKeep.tr rKeep.rf kJ rfl rfl rfl rfl rfl), h⟩
      · have h := hF c
        refine z_aload_n hC (pc := 11) 0 dX14_blanks_11 rfl rfl ?_
        refine y_get hC (pc := 12) zf14 rOb_0 26 (v := .ref (κ 1026)) dX14_blanks_12 zw2493 (rv_c rfl) (kk := ?_)
        refine z_aload_n hC (pc := 15) 0 dX14_blanks_15 rfl rfl ?_
        refine y_get hC (pc := 16) zf14 rOb_0 29 (v := iv (rF s10 0 29)) dX14_blanks_16 zw2496 (rv_i (Or.inl rfl) rfl) (kk := ?_)
        obtain ⟨b11, h⟩ := h
        refine y_bald hC (pc := 19) (rAr_m rfl) dX14_blanks_19 b11 (v := (rA s10 1026 (rF s10 0 29))) rfl (kk := ?_)
        have h := h (Ws10.a _ _)
        obtain ⟨p12, h⟩ := h
        refine y_callSi hC (pc := 20) (As := [iv (rA s10 1026 (rF s10 0 29))]) (kX14_isBlank l G κ s10 (rA s10 1026 (rF s10 0 29)) Ws10 (Ws10.a _ _) p12) dmX14_isBlank dX14_blanks_20 zw2997 rfl rfl (Nat.le_of_ble_eq_true rfl) (Nat.le_of_ble_eq_true rfl) (Nat.le_of_ble_eq_true rfl) (Nat.le_of_ble_eq_true rfl) (Nat.le_of_ble_eq_true rfl) (kk := fun x14 s13 hx14 Ws13 qs13 => ?_)
        obtain ⟨es13, qs13⟩ := qs13
        have es13 := es13.symm
        subst es13
        have h := h x14 hx14 qs13
        obtain ⟨hT, hF⟩ := h
        refine y_if_eq hC (pc := 23) 39 hx14 dX14_blanks_23 (by decide) (fun c => ?_) (fun c => ?_)
        · have h := hT c
          exact y_retv hR dX14_blanks_39 Ws10 (Nat.le_of_ble_eq_true rfl) (Nat.le_of_ble_eq_true rfl) ⟨(rKeep.tr rKeep.rf kJ rfl rfl rfl rfl rfl), h⟩
        · have h := hF c
          refine z_aload_n hC (pc := 26) 0 dX14_blanks_26 rfl rfl ?_
          refine z_dup hC (pc := 27) dX14_blanks_27 rfl ?_
          refine y_get hC (pc := 28) zf14 rOb_0 29 (v := iv (rF s10 0 29)) dX14_blanks_28 zw2496 (rv_i (Or.inl rfl) rfl) (kk := ?_)
          refine z_iconst hC (pc := 31) (v := Int32.ofInt 1) dX14_blanks_31 (by decide) ?_
          refine y_iadd hC (pc := 32) (v := ((rF s10 0 29) + 1)) dX14_blanks_32 rfl ?_
          obtain ⟨r15, h⟩ := h
          refine y_putI hC (pc := 33) zf14 rOb_0 29 (x := ((rF s10 0 29) + 1)) dX14_blanks_33 zw2496 (Or.inl rfl) rfl rfl (kk := ?_)
          have W16 := Ws10.sF (q := 0) (f := 29) (x := ((rF s10 0 29) + 1)) r15
          refine z_goto hC (pc := 36) 0 dX14_blanks_36 (by decide) ?_
          obtain ⟨hI, hm⟩ := h
          exact ih0 (sF s10 0 29 ((rF s10 0 29) + 1))  W16  (rKeep.tr (rKeep.tr rKeep.rf kJ rfl rfl rfl rfl rfl) (rKeep.sF0 (f := 29)) rfl rfl rfl rfl rfl) hI (by omega)
  exact j0 _ σ  hwf  rKeep.rf h (Nat.le_refl _)
theorem kX14_blanks (l : Launch) (G : zG) (κ : Nat → Nat) (σ : rS) (hwf : rWF σ) (hp : pre_X14_blanks σ ) : rMv l G κ yX14_blanks cX14_blanks 1 2 20 [.ref (κ 0)] σ (fun s => rKeep 0x20000000 0 0 0 0 σ s ∧ post_X14_blanks σ s) := wX14_blanks l G κ σ hwf (post_X14_blanks σ ) (vX14_blanks σ hwf hp) (vX14_blanks_0 σ hwf hp) (vX14_blanks_0m σ hwf hp)
def pre_X14_need (σ : rS) (x1 : Int) : Prop := 0 ≤ (rF σ 0 29) ∧ (rF σ 0 29) ≤ 100000 ∧ (rF σ 0 28) ≤ 4001 ∧ x1 ≠ -1 ∧ TPRp σ
def post_X14_need (σ : rS) (x1 : Int) (σ' : rS) : Prop := (rF σ 0 29) ≤ (rF σ' 0 29) ∧ ((rF σ' 0 29) ≤ (rF σ 0 28) ∨ (rF σ' 0 29) = (rF σ 0 29)) ∧ ((rF σ 0 10) ≠ 0 → (rF σ' 0 10) = (rF σ 0 10)) ∧ ((rF σ' 0 10) = 0 → (rF σ 0 29) < (rF σ' 0 29))
def VC_X14_need (σ : rS) (x1 : Int) (Q : rS → Prop) : Prop := pre_X14_blanks σ ∧ (∀ (s11 : rS), rWF s11 → (TPRp σ → TPRp s11) → rF s11 0 10 = rF σ 0 10 → rF s11 0 28 = rF σ 0 28 → (∀ i, rA s11 1026 i = rA σ 1026 i) → post_X14_blanks σ s11 → (rng (rF s11 0 10) → (((rF s11 0 10) = 0 → pre_X14_here s11 ∧ (∀ (x15 : Int), rng x15 → post_X14_here s11 x15 → ((¬ x15 = x1 → pre_X14_place s11 ∧ (∀ (x18 : Int), rng x18 → post_X14_place s11 x18 → pre_X14_bad s11 1 x18 ∧ (∀ (s20 : rS), rWF s20 → (TPRp s11 → TPRp s20) → rF s20 0 28 = rF s11 0 28 → rF s20 0 29 = rF s11 0 29 → (∀ i, rA s20 1026 i = rA s11 1026 i) → post_X14_bad s11 1 x18 s20 → Q s20))) ∧ (x15 = x1 → (rng (rF s11 0 29) → rng ((rF s11 0 29) + 1) ∧ Q (sF s11 0 29 ((rF s11 0 29) + 1))))))) ∧ (¬ (rF s11 0 10) = 0 → Q s11))))
set_option maxHeartbeats 400000 in
theorem vX14_need (σ : rS) (x1 : Int) (hwf : rWF σ) (hx1 : rng x1) (hp : pre_X14_need σ x1) : VC_X14_need σ x1 (post_X14_need σ x1) := by
  simp only [VC_X14_need, pre_X14_need, post_X14_need, pre_X14_place, pre_X14_bad, pre_X14_blanks, pre_X14_here, post_X14_place, post_X14_bad, post_X14_blanks, post_X14_here, rng, rfk, rNMp, rF_sF, rF_sA, rF_sL, rF_sR, rA_sA, rA_sF, rA_sL, rA_sR, rR_sF, rR_sA, rR_sL, rR_sR, reduceIte, and_true, true_and, and_false, false_and, and_self, TPRp_sL, TPRp_sF0, TPRp_sF3, TPRp_sF10, TPRp_sF11, TPRp_sF12, TPRp_sF13, TPRp_sF14, TPRp_sF16, TPRp_sF17, TPRp_sF18, TPRp_sF19, TPRp_sF21, TPRp_sF22, TPRp_sF23, TPRp_sF24, TPRp_sF25, TPRp_sF29, TPRp_sF31, TPRp_sF32, TPRp_sF33, TPRp_sF38, TPRp_sF39, TPRp_sF41, TPRp_sF42, TPRp_sF43, TPRp_sF44, TPRp_sF45, TPRp_sF60, TPRp_sF65, TPRp_sF66, TPRp_sF67, TPRp_sF68, TPRp_sF70, TPRp_sF71, TPRp_sF72, TPRp_sF73, TPRp_sF74, TPRp_sF80, TPRp_sF81, TPRp_sF82, TPRp_sF83, TPRp_sF88, TPRp_sF92, TPRp_sF94, TPRp_sF96, TPRp_sF97, TPRp_sF98, TPRp_sF99, TPRp_sF100, TPRp_sF101, TPRp_sF103, TPRp_sF104, TPRp_sF112, TPRp_sF113, TPRp_sF118, TPRp_sF119, TPRp_sF122, TPRp_sF123, TPRp_sF135, TPRp_sF137, TPRp_sA1, TPRp_sA2, TPRp_sA5, TPRp_sA20, TPRp_sA26, TPRp_sA34, TPRp_sA35, TPRp_sA36, TPRp_sA37, TPRp_sA40, TPRp_sA46, TPRp_sA47, TPRp_sA48, TPRp_sA49, TPRp_sA50, TPRp_sA51, TPRp_sA52, TPRp_sA53, TPRp_sA54, TPRp_sA55, TPRp_sA56, TPRp_sA57, TPRp_sA58, TPRp_sA59, TPRp_sA61, TPRp_sA62, TPRp_sA63, TPRp_sA64, TPRp_sA69, TPRp_sA75, TPRp_sA76, TPRp_sA77, TPRp_sA78, TPRp_sA79, TPRp_sA84, TPRp_sA85, TPRp_sA86, TPRp_sA87, TPRp_sA89, TPRp_sA90, TPRp_sA91, TPRp_sA93, TPRp_sA102, TPRp_sA105, TPRp_sA106, TPRp_sA107, TPRp_sA108, TPRp_sA109, TPRp_sA110, TPRp_sA111, TPRp_sA114, TPRp_sA115, TPRp_sA116, TPRp_sA117, TPRp_sA120, TPRp_sA121, TPRp_sA124, TPRp_sA125, TPRp_sA126, TPRp_sA127, TPRp_sA128, TPRp_sA129, TPRp_sA136, TPRp_sA138, TPRp_gA0, TPRp_gA1, TPRp_gA2, TPRp_gA3, TPRp_gA4, TPRp_gA5, TPRp_gA6, TPRp_gA8, TPRp_gA10, TPRp_gA11, TPRp_gA15, TPRp_gA16, TPRp_gA17, TPRp_gA18, TPRp_gA19, TPRp_gA20, TPRp_gA21, TPRp_gA22, TPRp_gA23, TPRp_gA24, TPRp_gA25, TPRp_gA26, TPRp_gA29, TPRp_gA30, TPRp_gA31, TPRp_gA33, TPRp_gA34, TPRp_gA35, TPRp_gA36, TPRp_gA37, TPRp_sF7, TPRp_sF9] at *
  (repeat' (first | with_reducible intro _ | with_reducible apply And.intro))
  all_goals (first | assumption | omega | grind (splits := 20) [rNM_sF0])
theorem wX14_need (l : Launch) (G : zG) (κ : Nat → Nat) (σ : rS) (x1 : Int) (hwf : rWF σ) (hx1 : rng x1) (Q : rS → Prop) (h : VC_X14_need σ x1 Q) : rMv l G κ yX14_need cX14_need 2 3 40 [.ref (κ 0), iv x1] σ (fun s => rKeep 0x20001c00 0 0 0 0 σ s ∧ Q s) := by
  refine zMv.intro (by decide +kernel) (Nat.le_of_ble_eq_true rfl) (fun X hC hR => ?_)
  refine z_aload_n hC (pc := 0) 0 dX14_need_0 rfl rfl ?_
  obtain ⟨p10, h⟩ := h
  refine y_callVv hC (pc := 1) (As := []) (kX14_blanks l G κ σ  hwf  p10) dmX14_blanks zf14 rOb_0 dX14_need_1 zw3119 rfl rfl (Nat.le_of_ble_eq_true rfl) (Nat.le_of_ble_eq_true rfl) (Nat.le_of_ble_eq_true rfl) (Nat.le_of_ble_eq_true rfl) (Nat.le_of_ble_eq_true rfl) (kk := fun s11 Ws11 qs11 => ?_)
  have h := h s11 Ws11 (TPRp.keep qs11.1 rfl rfl rfl) (qs11.1.F rfl) (qs11.1.F rfl) (fun i => qs11.1.A (f := 26) (by decide) rfl) qs11.2
  refine z_aload_n hC (pc := 4) 0 dX14_need_4 rfl rfl ?_
  refine y_get hC (pc := 5) zf14 rOb_0 10 (v := iv (rF s11 0 10)) dX14_need_5 zw2478 (rv_i (Or.inl rfl) rfl) (kk := ?_)
  have h := h (Ws11.f _ _)
  obtain ⟨hT, hF⟩ := h
  refine y_if_eq hC (pc := 8) 12 (Ws11.f _ _) dX14_need_8 (by decide) (fun c => ?_) (fun c => ?_)
  · have h := hT c
    refine z_aload_n hC (pc := 12) 0 dX14_need_12 rfl rfl ?_
    obtain ⟨p13, h⟩ := h
    refine y_callVi hC (pc := 13) (As := []) (kX14_here l G κ s11  Ws11  p13) dmX14_here zf14 rOb_0 dX14_need_13 zw3099 rfl rfl (Nat.le_of_ble_eq_true rfl) (Nat.le_of_ble_eq_true rfl) (Nat.le_of_ble_eq_true rfl) (Nat.le_of_ble_eq_true rfl) (Nat.le_of_ble_eq_true rfl) (kk := fun x15 s14 hx15 Ws14 qs14 => ?_)
    obtain ⟨es14, qs14⟩ := qs14
    have es14 := es14.symm
    subst es14
    have h := h x15 hx15 qs14
    refine z_iload_n hC (pc := 16) 1 dX14_need_16 rfl rfl ?_
    obtain ⟨hT, hF⟩ := h
    refine y_icmp_ne hC (pc := 17) 33 hx15 hx1 dX14_need_17 (by decide) (fun c => ?_) (fun c => ?_)
    · have h := hT c
      refine z_aload_n hC (pc := 33) 0 dX14_need_33 rfl rfl ?_
      refine z_iconst hC (pc := 34) (v := Int32.ofInt 1) dX14_need_34 (by decide) ?_
      refine z_aload_n hC (pc := 35) 0 dX14_need_35 rfl rfl ?_
      obtain ⟨p16, h⟩ := h
      refine y_callVi hC (pc := 36) (As := []) (kX14_place l G κ s11  Ws11  p16) dmX14_place zf14 rOb_0 dX14_need_36 zw3103 rfl rfl (Nat.le_of_ble_eq_true rfl) (Nat.le_of_ble_eq_true rfl) (Nat.le_of_ble_eq_true rfl) (Nat.le_of_ble_eq_true rfl) (Nat.le_of_ble_eq_true rfl) (kk := fun x18 s17 hx18 Ws17 qs17 => ?_)
      obtain ⟨es17, qs17⟩ := qs17
      have es17 := es17.symm
      subst es17
      have h := h x18 hx18 qs17
      obtain ⟨p19, h⟩ := h
      refine y_callVv hC (pc := 39) (As := [iv 1, iv x18]) (kX14_bad l G κ s11 1 x18 Ws11 (r_lit rfl) hx18 p19) dmX14_bad zf14 rOb_0 dX14_need_39 zw3000 rfl rfl (Nat.le_of_ble_eq_true rfl) (Nat.le_of_ble_eq_true rfl) (Nat.le_of_ble_eq_true rfl) (Nat.le_of_ble_eq_true rfl) (Nat.le_of_ble_eq_true rfl) (kk := fun s20 Ws20 qs20 => ?_)
      have h := h s20 Ws20 (TPRp.keep qs20.1 rfl rfl rfl) (qs20.1.F rfl) (qs20.1.F rfl) (fun i => qs20.1.A (f := 26) (by decide) rfl) qs20.2
      exact y_retv hR dX14_need_42 Ws20 (Nat.le_of_ble_eq_true rfl) (Nat.le_of_ble_eq_true rfl) ⟨(rKeep.tr (rKeep.tr rKeep.rf qs11.1 rfl rfl rfl rfl rfl) qs20.1 rfl rfl rfl rfl rfl), h⟩
    · have h := hF c
      refine z_aload_n hC (pc := 20) 0 dX14_need_20 rfl rfl ?_
      refine z_dup hC (pc := 21) dX14_need_21 rfl ?_
      refine y_get hC (pc := 22) zf14 rOb_0 29 (v := iv (rF s11 0 29)) dX14_need_22 zw2496 (rv_i (Or.inl rfl) rfl) (kk := ?_)
      have h := h (Ws11.f _ _)
      refine z_iconst hC (pc := 25) (v := Int32.ofInt 1) dX14_need_25 (by decide) ?_
      refine y_iadd hC (pc := 26) (v := ((rF s11 0 29) + 1)) dX14_need_26 rfl ?_
      obtain ⟨r22, h⟩ := h
      refine y_putI hC (pc := 27) zf14 rOb_0 29 (x := ((rF s11 0 29) + 1)) dX14_need_27 zw2496 (Or.inl rfl) rfl rfl (kk := ?_)
      have W23 := Ws11.sF (q := 0) (f := 29) (x := ((rF s11 0 29) + 1)) r22
      refine z_goto hC (pc := 30) 42 dX14_need_30 (by decide) ?_
      exact y_retv hR dX14_need_42 W23 (Nat.le_of_ble_eq_true rfl) (Nat.le_of_ble_eq_true rfl) ⟨(rKeep.tr (rKeep.tr rKeep.rf qs11.1 rfl rfl rfl rfl rfl) (rKeep.sF0 (f := 29)) rfl rfl rfl rfl rfl), h⟩
  · have h := hF c
    exact y_retv hR dX14_need_11 Ws11 (Nat.le_of_ble_eq_true rfl) (Nat.le_of_ble_eq_true rfl) ⟨(rKeep.tr rKeep.rf qs11.1 rfl rfl rfl rfl rfl), h⟩
theorem kX14_need (l : Launch) (G : zG) (κ : Nat → Nat) (σ : rS) (x1 : Int) (hwf : rWF σ) (hx1 : rng x1) (hp : pre_X14_need σ x1) : rMv l G κ yX14_need cX14_need 2 3 40 [.ref (κ 0), iv x1] σ (fun s => rKeep 0x20001c00 0 0 0 0 σ s ∧ post_X14_need σ x1 s) := wX14_need l G κ σ x1 hwf hx1 (post_X14_need σ x1) (vX14_need σ x1 hwf hx1 hp) 
def pre_X14_deeper (σ : rS) (x1 : Int) : Prop := 0 ≤ (rF σ 0 31) ∧ (rF σ 0 31) ≤ 20
def post_X14_deeper (σ : rS) (x1 : Int) (σ' : rS) : Prop := (rF σ' 0 31) = (rF σ 0 31) + 1 ∧ ((rF σ 0 10) ≠ 0 → (rF σ' 0 10) = (rF σ 0 10)) ∧ ((rF σ' 0 10) = 0 → (rF σ' 0 31) ≤ 20)
def VC_X14_deeper (σ : rS) (x1 : Int) (Q : rS → Prop) : Prop := (rng (rF σ 0 31) → ((¬ (rF σ 0 31) = 20 → rng ((rF σ 0 31) + 1) ∧ Q (sF σ 0 31 ((rF σ 0 31) + 1))) ∧ ((rF σ 0 31) = 20 → pre_X14_bad σ 4 x1 ∧ (∀ (s13 : rS), rWF s13 → rF s13 0 31 = rF σ 0 31 → post_X14_bad σ 4 x1 s13 → rng ((rF σ 0 31) + 1) ∧ Q (sF s13 0 31 ((rF σ 0 31) + 1))))))
set_option maxHeartbeats 400000 in
theorem vX14_deeper (σ : rS) (x1 : Int) (hwf : rWF σ) (hx1 : rng x1) (hp : pre_X14_deeper σ x1) : VC_X14_deeper σ x1 (post_X14_deeper σ x1) := by
  simp only [VC_X14_deeper, pre_X14_deeper, post_X14_deeper, pre_X14_bad, post_X14_bad, rng, rfk, rNMp, rF_sF, rF_sA, rF_sL, rF_sR, rA_sA, rA_sF, rA_sL, rA_sR, rR_sF, rR_sA, rR_sL, rR_sR, reduceIte, and_true, true_and, and_false, false_and, and_self] at *
  (repeat' (first | with_reducible intro _ | with_reducible apply And.intro))
  all_goals (first | assumption | omega | grind (splits := 20) [rNM_sF0])
theorem wX14_deeper (l : Launch) (G : zG) (κ : Nat → Nat) (σ : rS) (x1 : Int) (hwf : rWF σ) (hx1 : rng x1) (Q : rS → Prop) (h : VC_X14_deeper σ x1 Q) : rMv l G κ yX14_deeper cX14_deeper 2 2 22 [.ref (κ 0), iv x1] σ (fun s => rKeep 0x80001c00 0 0 0 0 σ s ∧ Q s) := by
  refine zMv.intro (by decide +kernel) (Nat.le_of_ble_eq_true rfl) (fun X hC hR => ?_)
  refine z_aload_n hC (pc := 0) 0 dX14_deeper_0 rfl rfl ?_
  refine y_get hC (pc := 1) zf14 rOb_0 31 (v := iv (rF σ 0 31)) dX14_deeper_1 zw2498 (rv_i (Or.inl rfl) rfl) (kk := ?_)
  have h := h (hwf.f _ _)
  refine z_bipush hC (pc := 4) (v := Int32.ofInt 20) dX14_deeper_4 (by decide) ?_
  obtain ⟨hT, hF⟩ := h
  refine y_icmp_ne hC (pc := 6) 15 (hwf.f _ _) (r_lit rfl) dX14_deeper_6 (by decide) (fun c => ?_) (fun c => ?_)
  · have h := hT c
    refine z_aload_n hC (pc := 15) 0 dX14_deeper_15 rfl rfl ?_
    refine z_dup hC (pc := 16) dX14_deeper_16 rfl ?_
    refine y_get hC (pc := 17) zf14 rOb_0 31 (v := iv (rF σ 0 31)) dX14_deeper_17 zw2498 (rv_i (Or.inl rfl) rfl) (kk := ?_)
    refine z_iconst hC (pc := 20) (v := Int32.ofInt 1) dX14_deeper_20 (by decide) ?_
    refine y_iadd hC (pc := 21) (v := ((rF σ 0 31) + 1)) dX14_deeper_21 rfl ?_
    obtain ⟨r10, h⟩ := h
    refine y_putI hC (pc := 22) zf14 rOb_0 31 (x := ((rF σ 0 31) + 1)) dX14_deeper_22 zw2498 (Or.inl rfl) rfl rfl (kk := ?_)
    have W11 := hwf.sF (q := 0) (f := 31) (x := ((rF σ 0 31) + 1)) r10
    exact y_retv hR dX14_deeper_25 W11 (Nat.le_of_ble_eq_true rfl) (Nat.le_of_ble_eq_true rfl) ⟨(rKeep.tr rKeep.rf (rKeep.sF0 (f := 31)) rfl rfl rfl rfl rfl), h⟩
  · have h := hF c
    refine z_aload_n hC (pc := 9) 0 dX14_deeper_9 rfl rfl ?_
    refine z_iconst hC (pc := 10) (v := Int32.ofInt 4) dX14_deeper_10 (by decide) ?_
    refine z_iload_n hC (pc := 11) 1 dX14_deeper_11 rfl rfl ?_
    obtain ⟨p12, h⟩ := h
    refine y_callVv hC (pc := 12) (As := [iv 4, iv x1]) (kX14_bad l G κ σ 4 x1 hwf (r_lit rfl) hx1 p12) dmX14_bad zf14 rOb_0 dX14_deeper_12 zw3000 rfl rfl (Nat.le_of_ble_eq_true rfl) (Nat.le_of_ble_eq_true rfl) (Nat.le_of_ble_eq_true rfl) (Nat.le_of_ble_eq_true rfl) (Nat.le_of_ble_eq_true rfl) (kk := fun s13 Ws13 qs13 => ?_)
    have h := h s13 Ws13 (qs13.1.F rfl) qs13.2
    refine z_aload_n hC (pc := 15) 0 dX14_deeper_15 rfl rfl ?_
    refine z_dup hC (pc := 16) dX14_deeper_16 rfl ?_
    refine y_get hC (pc := 17) zf14 rOb_0 31 (v := iv (rF σ 0 31)) dX14_deeper_17 zw2498 (rv_i (Or.inl rfl) ((qs13.1.F rfl).trans rfl)) (kk := ?_)
    refine z_iconst hC (pc := 20) (v := Int32.ofInt 1) dX14_deeper_20 (by decide) ?_
    refine y_iadd hC (pc := 21) (v := ((rF σ 0 31) + 1)) dX14_deeper_21 rfl ?_
    obtain ⟨r15, h⟩ := h
    refine y_putI hC (pc := 22) zf14 rOb_0 31 (x := ((rF σ 0 31) + 1)) dX14_deeper_22 zw2498 (Or.inl rfl) rfl rfl (kk := ?_)
    have W16 := Ws13.sF (q := 0) (f := 31) (x := ((rF σ 0 31) + 1)) r15
    exact y_retv hR dX14_deeper_25 W16 (Nat.le_of_ble_eq_true rfl) (Nat.le_of_ble_eq_true rfl) ⟨(rKeep.tr (rKeep.tr rKeep.rf qs13.1 rfl rfl rfl rfl rfl) (rKeep.sF0 (f := 31)) rfl rfl rfl rfl rfl), h⟩
theorem kX14_deeper (l : Launch) (G : zG) (κ : Nat → Nat) (σ : rS) (x1 : Int) (hwf : rWF σ) (hx1 : rng x1) (hp : pre_X14_deeper σ x1) : rMv l G κ yX14_deeper cX14_deeper 2 2 22 [.ref (κ 0), iv x1] σ (fun s => rKeep 0x80001c00 0 0 0 0 σ s ∧ post_X14_deeper σ x1 s) := wX14_deeper l G κ σ x1 hwf hx1 (post_X14_deeper σ x1) (vX14_deeper σ x1 hwf hx1 hp) 
def pre_X14_note (σ : rS) (x1 : Int) (x2 : Int) (x3 : Int) : Prop := 0 ≤ (rF σ 0 38) ∧ (rF σ 0 38) < 9000 ∧ 0 ≤ x3 ∧ x3 ≤ 4000 ∧ (1 ≤ x1 ∧ x1 ≤ 7 ∨ 20 ≤ x1 ∧ x1 ≤ 26) ∧ ((x1 = 4 ∨ x1 = 6 ∨ x1 = 7 ∨ x1 = 25) → 0 ≤ x2 ∧ x2 < 50000) ∧ WNp σ
def post_X14_note (σ : rS) (x1 : Int) (x2 : Int) (x3 : Int) (σ' : rS) : Prop := (rF σ' 0 38) = (rF σ 0 38) + 1 ∧ WNp σ'
def VC_X14_note (σ : rS) (x1 : Int) (x2 : Int) (x3 : Int) (Q : rS → Prop) : Prop := (rng (rF σ 0 38) → (0 ≤ (rF σ 0 38) ∧ (rF σ 0 38) < 9000) ∧ (0 ≤ (rF σ 0 38) ∧ (rF σ 0 38) < 9000) ∧ (0 ≤ (rF σ 0 38) ∧ (rF σ 0 38) < 9000) ∧ (0 ≤ (rF σ 0 38) ∧ (rF σ 0 38) < 9000) ∧ rng ((rF σ 0 38) + 1) ∧ Q (sF (sA (sA (sA (sA σ 1034 (rF σ 0 38) x1) 1035 (rF σ 0 38) x2) 1036 (rF σ 0 38) x3) 1037 (rF σ 0 38) (inar .boolean 0)) 0 38 ((rF σ 0 38) + 1)))
set_option maxHeartbeats 400000 in
theorem vX14_note (σ : rS) (x1 : Int) (x2 : Int) (x3 : Int) (hwf : rWF σ) (hx1 : rng x1) (hx2 : rng x2) (hx3 : rng x3) (hp : pre_X14_note σ x1 x2 x3) : VC_X14_note σ x1 x2 x3 (post_X14_note σ x1 x2 x3) := by
  simp only [VC_X14_note, pre_X14_note, post_X14_note, WNp, inar_b0, rng, rfk, rNMp, rF_sF, rF_sA, rF_sL, rF_sR, rA_sA, rA_sF, rA_sL, rA_sR, rR_sF, rR_sA, rR_sL, rR_sR, reduceIte, and_true, true_and, and_false, false_and, and_self, WNp_sL, WNp_sF0, WNp_sF3, WNp_sF10, WNp_sF11, WNp_sF12, WNp_sF13, WNp_sF14, WNp_sF16, WNp_sF17, WNp_sF18, WNp_sF19, WNp_sF21, WNp_sF22, WNp_sF23, WNp_sF24, WNp_sF25, WNp_sF28, WNp_sF29, WNp_sF30, WNp_sF31, WNp_sF32, WNp_sF33, WNp_sF39, WNp_sF41, WNp_sF42, WNp_sF43, WNp_sF44, WNp_sF45, WNp_sF60, WNp_sF65, WNp_sF66, WNp_sF67, WNp_sF68, WNp_sF70, WNp_sF71, WNp_sF72, WNp_sF73, WNp_sF74, WNp_sF80, WNp_sF81, WNp_sF82, WNp_sF83, WNp_sF88, WNp_sF92, WNp_sF94, WNp_sF96, WNp_sF97, WNp_sF98, WNp_sF99, WNp_sF100, WNp_sF101, WNp_sF103, WNp_sF104, WNp_sF112, WNp_sF113, WNp_sF118, WNp_sF119, WNp_sF122, WNp_sF123, WNp_sF135, WNp_sF137, WNp_sA1, WNp_sA2, WNp_sA5, WNp_sA20, WNp_sA26, WNp_sA27, WNp_sA40, WNp_sA46, WNp_sA47, WNp_sA48, WNp_sA49, WNp_sA50, WNp_sA51, WNp_sA52, WNp_sA53, WNp_sA54, WNp_sA55, WNp_sA56, WNp_sA57, WNp_sA58, WNp_sA59, WNp_sA61, WNp_sA62, WNp_sA63, WNp_sA64, WNp_sA69, WNp_sA75, WNp_sA76, WNp_sA77, WNp_sA78, WNp_sA79, WNp_sA84, WNp_sA85, WNp_sA86, WNp_sA87, WNp_sA89, WNp_sA90, WNp_sA91, WNp_sA93, WNp_sA102, WNp_sA105, WNp_sA106, WNp_sA107, WNp_sA108, WNp_sA109, WNp_sA110, WNp_sA111, WNp_sA114, WNp_sA115, WNp_sA116, WNp_sA117, WNp_sA120, WNp_sA121, WNp_sA124, WNp_sA125, WNp_sA126, WNp_sA127, WNp_sA128, WNp_sA129, WNp_sA136, WNp_sA138, WNp_gA0, WNp_gA1, WNp_gA2, WNp_gA3, WNp_gA4, WNp_gA5, WNp_gA6, WNp_gA8, WNp_gA10, WNp_gA11, WNp_gA15, WNp_gA16, WNp_gA17, WNp_gA18, WNp_gA19, WNp_gA20, WNp_gA21, WNp_gA22, WNp_gA23, WNp_gA24, WNp_gA25, WNp_gA26, WNp_gA27, WNp_gA29, WNp_gA30, WNp_gA31, WNp_gA33, WNp_sF7, WNp_sF9] at *
  (repeat' (first | with_reducible intro _ | with_reducible apply And.intro))
  all_goals (first | assumption | omega | grind (splits := 20) [rNM_sF0])
theorem wX14_note (l : Launch) (G : zG) (κ : Nat → Nat) (σ : rS) (x1 : Int) (x2 : Int) (x3 : Int) (hwf : rWF σ) (hx1 : rng x1) (hx2 : rng x2) (hx3 : rng x3) (Q : rS → Prop) (h : VC_X14_note σ x1 x2 x3 Q) : rMv l G κ yX14_note cX14_note 4 1 0 [.ref (κ 0), iv x1, iv x2, iv x3] σ (fun s => rKeep 0x4000000000 0 0x3c00000000 0 0 σ s ∧ Q s) := by
  refine zMv.intro (by decide +kernel) (Nat.le_of_ble_eq_true rfl) (fun X hC hR => ?_)
  refine z_aload_n hC (pc := 0) 0 dX14_note_0 rfl rfl ?_
  refine y_get hC (pc := 1) zf14 rOb_0 34 (v := .ref (κ 1034)) dX14_note_1 zw2501 (rv_c rfl) (kk := ?_)
  refine z_aload_n hC (pc := 4) 0 dX14_note_4 rfl rfl ?_
  refine y_get hC (pc := 5) zf14 rOb_0 38 (v := iv (rF σ 0 38)) dX14_note_5 zw2505 (rv_i (Or.inl rfl) rfl) (kk := ?_)
  have h := h (hwf.f _ _)
  refine z_iload_n hC (pc := 8) 1 dX14_note_8 rfl rfl ?_
  obtain ⟨b10, h⟩ := h
  refine y_iast hC (pc := 9) (rAr_m rfl) dX14_note_9 b10 (v := x1) (kk := ?_)
  have W11 := hwf.sA (p := 1034) (i := (rF σ 0 38)) (x := x1) hx1
  refine z_aload_n hC (pc := 10) 0 dX14_note_10 rfl rfl ?_
  refine y_get hC (pc := 11) zf14 rOb_0 35 (v := .ref (κ 1035)) dX14_note_11 zw2502 (rv_c rfl) (kk := ?_)
  refine z_aload_n hC (pc := 14) 0 dX14_note_14 rfl rfl ?_
  refine y_get hC (pc := 15) zf14 rOb_0 38 (v := iv (rF σ 0 38)) dX14_note_15 zw2505 (rv_i (Or.inl rfl) rfl) (kk := ?_)
  refine z_iload_n hC (pc := 18) 2 dX14_note_18 rfl rfl ?_
  obtain ⟨b12, h⟩ := h
  refine y_iast hC (pc := 19) (rAr_m rfl) dX14_note_19 b12 (v := x2) (kk := ?_)
  have W13 := W11.sA (p := 1035) (i := (rF σ 0 38)) (x := x2) hx2
  refine z_aload_n hC (pc := 20) 0 dX14_note_20 rfl rfl ?_
  refine y_get hC (pc := 21) zf14 rOb_0 36 (v := .ref (κ 1036)) dX14_note_21 zw2503 (rv_c rfl) (kk := ?_)
  refine z_aload_n hC (pc := 24) 0 dX14_note_24 rfl rfl ?_
  refine y_get hC (pc := 25) zf14 rOb_0 38 (v := iv (rF σ 0 38)) dX14_note_25 zw2505 (rv_i (Or.inl rfl) rfl) (kk := ?_)
  refine z_iload_n hC (pc := 28) 3 dX14_note_28 rfl rfl ?_
  obtain ⟨b14, h⟩ := h
  refine y_iast hC (pc := 29) (rAr_m rfl) dX14_note_29 b14 (v := x3) (kk := ?_)
  have W15 := W13.sA (p := 1036) (i := (rF σ 0 38)) (x := x3) hx3
  refine z_aload_n hC (pc := 30) 0 dX14_note_30 rfl rfl ?_
  refine y_get hC (pc := 31) zf14 rOb_0 37 (v := .ref (κ 1037)) dX14_note_31 zw2504 (rv_c rfl) (kk := ?_)
  refine z_aload_n hC (pc := 34) 0 dX14_note_34 rfl rfl ?_
  refine y_get hC (pc := 35) zf14 rOb_0 38 (v := iv (rF σ 0 38)) dX14_note_35 zw2505 (rv_i (Or.inl rfl) rfl) (kk := ?_)
  refine z_iconst hC (pc := 38) (v := Int32.ofInt 0) dX14_note_38 (by decide) ?_
  obtain ⟨b16, h⟩ := h
  refine y_zast hC (pc := 39) (rAr_m rfl) dX14_note_39 b16 (v := 0) (kk := ?_)
  have W17 := W15.sA (p := 1037) (i := (rF σ 0 38)) (x := (inar .boolean 0)) (inar_rng _ _)
  refine z_aload_n hC (pc := 40) 0 dX14_note_40 rfl rfl ?_
  refine z_dup hC (pc := 41) dX14_note_41 rfl ?_
  refine y_get hC (pc := 42) zf14 rOb_0 38 (v := iv (rF σ 0 38)) dX14_note_42 zw2505 (rv_i (Or.inl rfl) rfl) (kk := ?_)
  refine z_iconst hC (pc := 45) (v := Int32.ofInt 1) dX14_note_45 (by decide) ?_
  refine y_iadd hC (pc := 46) (v := ((rF σ 0 38) + 1)) dX14_note_46 rfl ?_
  obtain ⟨r18, h⟩ := h
  refine y_putI hC (pc := 47) zf14 rOb_0 38 (x := ((rF σ 0 38) + 1)) dX14_note_47 zw2505 (Or.inl rfl) rfl rfl (kk := ?_)
  have W19 := W17.sF (q := 0) (f := 38) (x := ((rF σ 0 38) + 1)) r18
  exact y_retv hR dX14_note_50 W19 (Nat.le_of_ble_eq_true rfl) (Nat.le_of_ble_eq_true rfl) ⟨(rKeep.tr (rKeep.tr (rKeep.tr (rKeep.tr (rKeep.tr rKeep.rf (rKeep.sA0 (f := 34) (by decide)) rfl rfl rfl rfl rfl) (rKeep.sA0 (f := 35) (by decide)) rfl rfl rfl rfl rfl) (rKeep.sA0 (f := 36) (by decide)) rfl rfl rfl rfl rfl) (rKeep.sA0 (f := 37) (by decide)) rfl rfl rfl rfl rfl) (rKeep.sF0 (f := 38)) rfl rfl rfl rfl rfl), h⟩
theorem kX14_note (l : Launch) (G : zG) (κ : Nat → Nat) (σ : rS) (x1 : Int) (x2 : Int) (x3 : Int) (hwf : rWF σ) (hx1 : rng x1) (hx2 : rng x2) (hx3 : rng x3) (hp : pre_X14_note σ x1 x2 x3) : rMv l G κ yX14_note cX14_note 4 1 0 [.ref (κ 0), iv x1, iv x2, iv x3] σ (fun s => rKeep 0x4000000000 0 0x3c00000000 0 0 σ s ∧ post_X14_note σ x1 x2 x3 s) := wX14_note l G κ σ x1 x2 x3 hwf hx1 hx2 hx3 (post_X14_note σ x1 x2 x3) (vX14_note σ x1 x2 x3 hwf hx1 hx2 hx3 hp) 
def pre_X14_addByte (σ : rS) (x1 : Int) (x2 : Int) : Prop := 0 ≤ (rF σ 0 28) ∧ (rF σ 0 28) < 4001
def post_X14_addByte (σ : rS) (x1 : Int) (x2 : Int) (σ' : rS) : Prop := (rF σ' 0 28) = (rF σ 0 28) + 1
def VC_X14_addByte (σ : rS) (x1 : Int) (x2 : Int) (Q : rS → Prop) : Prop := (rng (rF σ 0 28) → (0 ≤ (rF σ 0 28) ∧ (rF σ 0 28) < 4001) ∧ (0 ≤ (rF σ 0 28) ∧ (rF σ 0 28) < 4001) ∧ rng ((rF σ 0 28) + 1) ∧ Q (sF (sA (sA σ 1026 (rF σ 0 28) (inar .byte (f_i2b x1))) 1027 (rF σ 0 28) x2) 0 28 ((rF σ 0 28) + 1)))
set_option maxHeartbeats 400000 in
theorem vX14_addByte (σ : rS) (x1 : Int) (x2 : Int) (hwf : rWF σ) (hx1 : rng x1) (hx2 : rng x2) (hp : pre_X14_addByte σ x1 x2) : VC_X14_addByte σ x1 x2 (post_X14_addByte σ x1 x2) := by
  simp only [VC_X14_addByte, pre_X14_addByte, post_X14_addByte, rng, rfk, rNMp, rF_sF, rF_sA, rF_sL, rF_sR, rA_sA, rA_sF, rA_sL, rA_sR, rR_sF, rR_sA, rR_sL, rR_sR, reduceIte, and_true, true_and, and_false, false_and, and_self] at *
  (repeat' (first | with_reducible intro _ | with_reducible apply And.intro))
  all_goals (first | assumption | omega | grind (splits := 20) [rNM_sF0])
theorem wX14_addByte (l : Launch) (G : zG) (κ : Nat → Nat) (σ : rS) (x1 : Int) (x2 : Int) (hwf : rWF σ) (hx1 : rng x1) (hx2 : rng x2) (Q : rS → Prop) (h : VC_X14_addByte σ x1 x2 Q) : rMv l G κ yX14_addByte cX14_addByte 3 1 0 [.ref (κ 0), iv x1, iv x2] σ (fun s => rKeep 0x10000000 0 0xc000000 0 0 σ s ∧ Q s) := by
  refine zMv.intro (by decide +kernel) (Nat.le_of_ble_eq_true rfl) (fun X hC hR => ?_)
  refine z_aload_n hC (pc := 0) 0 dX14_addByte_0 rfl rfl ?_
  refine y_get hC (pc := 1) zf14 rOb_0 26 (v := .ref (κ 1026)) dX14_addByte_1 zw2493 (rv_c rfl) (kk := ?_)
  refine z_aload_n hC (pc := 4) 0 dX14_addByte_4 rfl rfl ?_
  refine y_get hC (pc := 5) zf14 rOb_0 28 (v := iv (rF σ 0 28)) dX14_addByte_5 zw2495 (rv_i (Or.inl rfl) rfl) (kk := ?_)
  have h := h (hwf.f _ _)
  refine z_iload_n hC (pc := 8) 1 dX14_addByte_8 rfl rfl ?_
  refine y_i2b hC (pc := 9) dX14_addByte_9 ?_
  obtain ⟨b10, h⟩ := h
  refine y_bast hC (pc := 10) (rAr_m rfl) dX14_addByte_10 b10 (v := (f_i2b x1)) (kk := ?_)
  have W11 := hwf.sA (p := 1026) (i := (rF σ 0 28)) (x := (inar .byte (f_i2b x1))) (inar_rng _ _)
  refine z_aload_n hC (pc := 11) 0 dX14_addByte_11 rfl rfl ?_
  refine y_get hC (pc := 12) zf14 rOb_0 27 (v := .ref (κ 1027)) dX14_addByte_12 zw2494 (rv_c rfl) (kk := ?_)
  refine z_aload_n hC (pc := 15) 0 dX14_addByte_15 rfl rfl ?_
  refine y_get hC (pc := 16) zf14 rOb_0 28 (v := iv (rF σ 0 28)) dX14_addByte_16 zw2495 (rv_i (Or.inl rfl) rfl) (kk := ?_)
  refine z_iload_n hC (pc := 19) 2 dX14_addByte_19 rfl rfl ?_
  obtain ⟨b12, h⟩ := h
  refine y_iast hC (pc := 20) (rAr_m rfl) dX14_addByte_20 b12 (v := x2) (kk := ?_)
  have W13 := W11.sA (p := 1027) (i := (rF σ 0 28)) (x := x2) hx2
  refine z_aload_n hC (pc := 21) 0 dX14_addByte_21 rfl rfl ?_
  refine z_dup hC (pc := 22) dX14_addByte_22 rfl ?_
  refine y_get hC (pc := 23) zf14 rOb_0 28 (v := iv (rF σ 0 28)) dX14_addByte_23 zw2495 (rv_i (Or.inl rfl) rfl) (kk := ?_)
  refine z_iconst hC (pc := 26) (v := Int32.ofInt 1) dX14_addByte_26 (by decide) ?_
  refine y_iadd hC (pc := 27) (v := ((rF σ 0 28) + 1)) dX14_addByte_27 rfl ?_
  obtain ⟨r14, h⟩ := h
  refine y_putI hC (pc := 28) zf14 rOb_0 28 (x := ((rF σ 0 28) + 1)) dX14_addByte_28 zw2495 (Or.inl rfl) rfl rfl (kk := ?_)
  have W15 := W13.sF (q := 0) (f := 28) (x := ((rF σ 0 28) + 1)) r14
  exact y_retv hR dX14_addByte_31 W15 (Nat.le_of_ble_eq_true rfl) (Nat.le_of_ble_eq_true rfl) ⟨(rKeep.tr (rKeep.tr (rKeep.tr rKeep.rf (rKeep.sA0 (f := 26) (by decide)) rfl rfl rfl rfl rfl) (rKeep.sA0 (f := 27) (by decide)) rfl rfl rfl rfl rfl) (rKeep.sF0 (f := 28)) rfl rfl rfl rfl rfl), h⟩
theorem kX14_addByte (l : Launch) (G : zG) (κ : Nat → Nat) (σ : rS) (x1 : Int) (x2 : Int) (hwf : rWF σ) (hx1 : rng x1) (hx2 : rng x2) (hp : pre_X14_addByte σ x1 x2) : rMv l G κ yX14_addByte cX14_addByte 3 1 0 [.ref (κ 0), iv x1, iv x2] σ (fun s => rKeep 0x10000000 0 0xc000000 0 0 σ s ∧ post_X14_addByte σ x1 x2 s) := wX14_addByte l G κ σ x1 x2 hwf hx1 hx2 (post_X14_addByte σ x1 x2) (vX14_addByte σ x1 x2 hwf hx1 hx2 hp) 
def pre_X14_node (σ : rS) (x1 : Int) (x2 : Int) (x3 : Int) (x4 : Int) : Prop := rgk (rR σ 7) ∧ 0 ≤ (rF σ (rR σ 7) 7) ∧ (rF σ (rR σ 7) 7) < 50000 ∧ 0 ≤ x4 ∧ x4 ≤ 100000 ∧ 0 ≤ (rF σ 0 14) ∧ (rF σ 0 14) ≤ 7
def post_X14_node (σ : rS) (x1 : Int) (x2 : Int) (x3 : Int) (x4 : Int) (r : Int) (σ' : rS) : Prop := r = (rF σ (rR σ 7) 7) ∧ rF σ' (rR σ 7) 7 = (rF σ (rR σ 7) 7) + 1 ∧ rA σ' (1000 * (rR σ 7 + 1) + 0) r = x1 ∧ (∀ j, j ≠ r → rA σ' (1000 * (rR σ 7 + 1) + 0) j = rA σ (1000 * (rR σ 7 + 1) + 0) j) ∧ rA σ' (1000 * (rR σ 7 + 1) + 1) r = x2 ∧ (∀ j, j ≠ r → rA σ' (1000 * (rR σ 7 + 1) + 1) j = rA σ (1000 * (rR σ 7 + 1) + 1) j) ∧ rA σ' (1000 * (rR σ 7 + 1) + 2) r = x3 ∧ (∀ j, j ≠ r → rA σ' (1000 * (rR σ 7 + 1) + 2) j = rA σ (1000 * (rR σ 7 + 1) + 2) j) ∧ rA σ' (1000 * (rR σ 7 + 1) + 3) r = 0 ∧ (∀ j, j ≠ r → rA σ' (1000 * (rR σ 7 + 1) + 3) j = rA σ (1000 * (rR σ 7 + 1) + 3) j) ∧ rA σ' (1000 * (rR σ 7 + 1) + 4) r = 0 ∧ (∀ j, j ≠ r → rA σ' (1000 * (rR σ 7 + 1) + 4) j = rA σ (1000 * (rR σ 7 + 1) + 4) j) ∧ rA σ' (1000 * (rR σ 7 + 1) + 5) r = 0 ∧ (∀ j, j ≠ r → rA σ' (1000 * (rR σ 7 + 1) + 5) j = rA σ (1000 * (rR σ 7 + 1) + 5) j) ∧ rA σ' (1000 * (rR σ 7 + 1) + 6) r = 8 * x4 + (rF σ 0 14) ∧ (∀ j, j ≠ r → rA σ' (1000 * (rR σ 7 + 1) + 6) j = rA σ (1000 * (rR σ 7 + 1) + 6) j)
def VC_X14_node (σ : rS) (x1 : Int) (x2 : Int) (x3 : Int) (x4 : Int) (Q : Int → rS → Prop) : Prop := rgk (rR σ 7) ∧ (rng (rF σ (rR σ 7) 7) → rng ((rF σ (rR σ 7) 7) + 1) ∧ (0 ≤ (rF σ (rR σ 7) 7) ∧ (rF σ (rR σ 7) 7) < 50000) ∧ (0 ≤ (rF σ (rR σ 7) 7) ∧ (rF σ (rR σ 7) 7) < 50000) ∧ (0 ≤ (rF σ (rR σ 7) 7) ∧ (rF σ (rR σ 7) 7) < 50000) ∧ (0 ≤ (rF σ (rR σ 7) 7) ∧ (rF σ (rR σ 7) 7) < 50000) ∧ (0 ≤ (rF σ (rR σ 7) 7) ∧ (rF σ (rR σ 7) 7) < 50000) ∧ (0 ≤ (rF σ (rR σ 7) 7) ∧ (rF σ (rR σ 7) 7) < 50000) ∧ (rng (rF σ 0 14) → (0 ≤ (rF σ (rR σ 7) 7) ∧ (rF σ (rR σ 7) 7) < 50000) ∧ rng ((8 * x4) + (rF σ 0 14)) ∧ Q (rF σ (rR σ 7) 7) (sA (sA (sA (sA (sA (sA (sA (sF σ (rR σ 7) 7 ((rF σ (rR σ 7) 7) + 1)) (1000 * ((rR σ 7) + 1) + 0) (rF σ (rR σ 7) 7) x1) (1000 * ((rR σ 7) + 1) + 1) (rF σ (rR σ 7) 7) x2) (1000 * ((rR σ 7) + 1) + 2) (rF σ (rR σ 7) 7) x3) (1000 * ((rR σ 7) + 1) + 3) (rF σ (rR σ 7) 7) 0) (1000 * ((rR σ 7) + 1) + 4) (rF σ (rR σ 7) 7) 0) (1000 * ((rR σ 7) + 1) + 5) (rF σ (rR σ 7) 7) 0) (1000 * ((rR σ 7) + 1) + 6) (rF σ (rR σ 7) 7) ((8 * x4) + (rF σ 0 14)))))
set_option maxHeartbeats 400000 in
theorem vX14_node (σ : rS) (x1 : Int) (x2 : Int) (x3 : Int) (x4 : Int) (hwf : rWF σ) (hx1 : rng x1) (hx2 : rng x2) (hx3 : rng x3) (hx4 : rng x4) (hp : pre_X14_node σ x1 x2 x3 x4) : VC_X14_node σ x1 x2 x3 x4 (post_X14_node σ x1 x2 x3 x4) := by
  simp only [VC_X14_node, pre_X14_node, post_X14_node, rng, rfk, rNMp, rF_sF, rF_sA, rF_sL, rF_sR, rA_sA, rA_sF, rA_sL, rA_sR, rR_sF, rR_sA, rR_sL, rR_sR, reduceIte, and_true, true_and, and_false, false_and, and_self] at *
  (repeat' (first | with_reducible intro _ | with_reducible apply And.intro))
  all_goals (first | assumption | omega | grind (splits := 20) [rNM_sF0])
theorem wX14_node (l : Launch) (G : zG) (κ : Nat → Nat) (σ : rS) (x1 : Int) (x2 : Int) (x3 : Int) (x4 : Int) (hwf : rWF σ) (hx1 : rng x1) (hx2 : rng x2) (hx3 : rng x3) (hx4 : rng x4) (Q : Int → rS → Prop) (h : VC_X14_node σ x1 x2 x3 x4 Q) : rMi l G κ yX14_node cX14_node 6 .int 1 0 [.ref (κ 0), iv x1, iv x2, iv x3, iv x4] σ (fun x s => rKeep 0 0x80 0 0x7f 0 σ s ∧ Q x s) := by
  refine zMi.intro (by decide +kernel) (Nat.le_of_ble_eq_true rfl) (fun X hC hR => ?_)
  obtain ⟨g0, h⟩ := h
  refine z_aload_n hC (pc := 0) 0 dX14_node_0 rfl rfl ?_
  refine y_get hC (pc := 1) zf14 rOb_0 7 (v := .ref (κ (rR σ 7))) dX14_node_1 zw2475 (rv_g rfl rfl g0) (kk := ?_)
  refine y_getN hC (pc := 4) zf13 (rOb_k g0) 7 (v := iv (rF σ (rR σ 7) 7)) dX14_node_4 zw2324 (rv_i (Or.inl rfl) rfl) (kk := ?_)
  have h := h (hwf.f _ _)
  refine z_istore hC (pc := 7) (lv' := [(5, iv (rF σ (rR σ 7) 7)), (0, .ref (κ 0)), (1, iv x1), (2, iv x2), (3, iv x3), (4, iv x4)]) dX14_node_7 (by decide) rfl ?_
  refine z_aload_n hC (pc := 9) 1 dX14_node_9 rfl rfl ?_
  refine y_get hC (pc := 10) zf14 rOb_0 7 (v := .ref (κ (rR σ 7))) dX14_node_10 zw2475 (rv_g rfl rfl g0) (kk := ?_)
  refine z_dup hC (pc := 13) dX14_node_13 rfl ?_
  refine y_getN hC (pc := 14) zf13 (rOb_k g0) 7 (v := iv (rF σ (rR σ 7) 7)) dX14_node_14 zw2324 (rv_i (Or.inl rfl) rfl) (kk := ?_)
  refine z_iconst hC (pc := 17) (v := Int32.ofInt 1) dX14_node_17 (by decide) ?_
  refine y_iadd hC (pc := 18) (v := ((rF σ (rR σ 7) 7) + 1)) dX14_node_18 rfl ?_
  obtain ⟨r10, h⟩ := h
  refine y_putIN hC (pc := 19) zf13 (rOb_k g0) 7 (x := ((rF σ (rR σ 7) 7) + 1)) dX14_node_19 zw2324 (Or.inl rfl) rfl rfl (kk := ?_)
  have W11 := hwf.sF (q := (rR σ 7)) (f := 7) (x := ((rF σ (rR σ 7) 7) + 1)) r10
  refine z_aload_n hC (pc := 22) 1 dX14_node_22 rfl rfl ?_
  refine y_get hC (pc := 23) zf14 rOb_0 7 (v := .ref (κ (rR σ 7))) dX14_node_23 zw2475 (rv_g rfl rfl g0) (kk := ?_)
  refine y_getN hC (pc := 26) zf13 (rOb_k g0) 0 (v := .ref (κ (1000 * ((rR σ 7) + 1) + 0))) dX14_node_26 zw2310 (rv_c rfl) (kk := ?_)
  refine z_iload hC (pc := 29) 0 dX14_node_29 rfl ?_
  refine z_iload_n hC (pc := 31) 2 dX14_node_31 rfl rfl ?_
  obtain ⟨b12, h⟩ := h
  refine y_iast hC (pc := 32) (rAr_k g0 rfl rfl) dX14_node_32 b12 (v := x1) (kk := ?_)
  have W13 := W11.sA (p := (1000 * ((rR σ 7) + 1) + 0)) (i := (rF σ (rR σ 7) 7)) (x := x1) hx1
  refine z_aload_n hC (pc := 33) 1 dX14_node_33 rfl rfl ?_
  refine y_get hC (pc := 34) zf14 rOb_0 7 (v := .ref (κ (rR σ 7))) dX14_node_34 zw2475 (rv_g rfl rfl g0) (kk := ?_)
  refine y_getN hC (pc := 37) zf13 (rOb_k g0) 1 (v := .ref (κ (1000 * ((rR σ 7) + 1) + 1))) dX14_node_37 zw2312 (rv_c rfl) (kk := ?_)
  refine z_iload hC (pc := 40) 0 dX14_node_40 rfl ?_
  refine z_iload_n hC (pc := 42) 3 dX14_node_42 rfl rfl ?_
  obtain ⟨b14, h⟩ := h
  refine y_iast hC (pc := 43) (rAr_k g0 rfl rfl) dX14_node_43 b14 (v := x2) (kk := ?_)
  have W15 := W13.sA (p := (1000 * ((rR σ 7) + 1) + 1)) (i := (rF σ (rR σ 7) 7)) (x := x2) hx2
  refine z_aload_n hC (pc := 44) 1 dX14_node_44 rfl rfl ?_
  refine y_get hC (pc := 45) zf14 rOb_0 7 (v := .ref (κ (rR σ 7))) dX14_node_45 zw2475 (rv_g rfl rfl g0) (kk := ?_)
  refine y_getN hC (pc := 48) zf13 (rOb_k g0) 2 (v := .ref (κ (1000 * ((rR σ 7) + 1) + 2))) dX14_node_48 zw2314 (rv_c rfl) (kk := ?_)
  refine z_iload hC (pc := 51) 0 dX14_node_51 rfl ?_
  refine z_iload_n hC (pc := 53) 4 dX14_node_53 rfl rfl ?_
  obtain ⟨b16, h⟩ := h
  refine y_iast hC (pc := 54) (rAr_k g0 rfl rfl) dX14_node_54 b16 (v := x3) (kk := ?_)
  have W17 := W15.sA (p := (1000 * ((rR σ 7) + 1) + 2)) (i := (rF σ (rR σ 7) 7)) (x := x3) hx3
  refine z_aload_n hC (pc := 55) 1 dX14_node_55 rfl rfl ?_
  refine y_get hC (pc := 56) zf14 rOb_0 7 (v := .ref (κ (rR σ 7))) dX14_node_56 zw2475 (rv_g rfl rfl g0) (kk := ?_)
  refine y_getN hC (pc := 59) zf13 (rOb_k g0) 3 (v := .ref (κ (1000 * ((rR σ 7) + 1) + 3))) dX14_node_59 zw2316 (rv_c rfl) (kk := ?_)
  refine z_iload hC (pc := 62) 0 dX14_node_62 rfl ?_
  refine z_iconst hC (pc := 64) (v := Int32.ofInt 0) dX14_node_64 (by decide) ?_
  obtain ⟨b18, h⟩ := h
  refine y_iast hC (pc := 65) (rAr_k g0 rfl rfl) dX14_node_65 b18 (v := 0) (kk := ?_)
  have W19 := W17.sA (p := (1000 * ((rR σ 7) + 1) + 3)) (i := (rF σ (rR σ 7) 7)) (x := 0) (r_lit rfl)
  refine z_aload_n hC (pc := 66) 1 dX14_node_66 rfl rfl ?_
  refine y_get hC (pc := 67) zf14 rOb_0 7 (v := .ref (κ (rR σ 7))) dX14_node_67 zw2475 (rv_g rfl rfl g0) (kk := ?_)
  refine y_getN hC (pc := 70) zf13 (rOb_k g0) 4 (v := .ref (κ (1000 * ((rR σ 7) + 1) + 4))) dX14_node_70 zw2318 (rv_c rfl) (kk := ?_)
  refine z_iload hC (pc := 73) 0 dX14_node_73 rfl ?_
  refine z_iconst hC (pc := 75) (v := Int32.ofInt 0) dX14_node_75 (by decide) ?_
  obtain ⟨b20, h⟩ := h
  refine y_iast hC (pc := 76) (rAr_k g0 rfl rfl) dX14_node_76 b20 (v := 0) (kk := ?_)
  have W21 := W19.sA (p := (1000 * ((rR σ 7) + 1) + 4)) (i := (rF σ (rR σ 7) 7)) (x := 0) (r_lit rfl)
  refine z_aload_n hC (pc := 77) 1 dX14_node_77 rfl rfl ?_
  refine y_get hC (pc := 78) zf14 rOb_0 7 (v := .ref (κ (rR σ 7))) dX14_node_78 zw2475 (rv_g rfl rfl g0) (kk := ?_)
  refine y_getN hC (pc := 81) zf13 (rOb_k g0) 5 (v := .ref (κ (1000 * ((rR σ 7) + 1) + 5))) dX14_node_81 zw2320 (rv_c rfl) (kk := ?_)
  refine z_iload hC (pc := 84) 0 dX14_node_84 rfl ?_
  refine z_iconst hC (pc := 86) (v := Int32.ofInt 0) dX14_node_86 (by decide) ?_
  obtain ⟨b22, h⟩ := h
  refine y_iast hC (pc := 87) (rAr_k g0 rfl rfl) dX14_node_87 b22 (v := 0) (kk := ?_)
  have W23 := W21.sA (p := (1000 * ((rR σ 7) + 1) + 5)) (i := (rF σ (rR σ 7) 7)) (x := 0) (r_lit rfl)
  refine z_aload_n hC (pc := 88) 1 dX14_node_88 rfl rfl ?_
  refine y_get hC (pc := 89) zf14 rOb_0 7 (v := .ref (κ (rR σ 7))) dX14_node_89 zw2475 (rv_g rfl rfl g0) (kk := ?_)
  refine y_getN hC (pc := 92) zf13 (rOb_k g0) 6 (v := .ref (κ (1000 * ((rR σ 7) + 1) + 6))) dX14_node_92 zw2322 (rv_c rfl) (kk := ?_)
  refine z_iload hC (pc := 95) 0 dX14_node_95 rfl ?_
  refine z_bipush hC (pc := 97) (v := Int32.ofInt 8) dX14_node_97 (by decide) ?_
  refine z_iload hC (pc := 99) 5 dX14_node_99 rfl ?_
  refine y_imul hC (pc := 101) (v := (8 * x4)) dX14_node_101 rfl ?_
  refine z_aload_n hC (pc := 102) 1 dX14_node_102 rfl rfl ?_
  refine y_get hC (pc := 103) zf14 rOb_0 14 (v := iv (rF σ 0 14)) dX14_node_103 zw2481 (rv_i (Or.inl rfl) ((F_sF_ne (by decide)).trans rfl)) (kk := ?_)
  have h := h (hwf.f _ _)
  refine y_iadd hC (pc := 106) (v := ((8 * x4) + (rF σ 0 14))) dX14_node_106 rfl ?_
  obtain ⟨b24, h⟩ := h
  obtain ⟨r25, h⟩ := h
  refine y_iast hC (pc := 107) (rAr_k g0 rfl rfl) dX14_node_107 b24 (v := ((8 * x4) + (rF σ 0 14))) (kk := ?_)
  have W26 := W23.sA (p := (1000 * ((rR σ 7) + 1) + 6)) (i := (rF σ (rR σ 7) 7)) (x := ((8 * x4) + (rF σ 0 14))) r25
  refine z_iload hC (pc := 108) 0 dX14_node_108 rfl ?_
  exact y_reti hR dX14_node_110 rfl (hwf.f _ _) W26 (Nat.le_of_ble_eq_true rfl) (Nat.le_of_ble_eq_true rfl) ⟨(rKeep.tr (rKeep.tr (rKeep.tr (rKeep.tr (rKeep.tr (rKeep.tr (rKeep.tr (rKeep.tr rKeep.rf (rKeep.sFk (f := 7) g0) rfl rfl rfl rfl rfl) (rKeep.sAk (f := 0) g0 (by decide)) rfl rfl rfl rfl rfl) (rKeep.sAk (f := 1) g0 (by decide)) rfl rfl rfl rfl rfl) (rKeep.sAk (f := 2) g0 (by decide)) rfl rfl rfl rfl rfl) (rKeep.sAk (f := 3) g0 (by decide)) rfl rfl rfl rfl rfl) (rKeep.sAk (f := 4) g0 (by decide)) rfl rfl rfl rfl rfl) (rKeep.sAk (f := 5) g0 (by decide)) rfl rfl rfl rfl rfl) (rKeep.sAk (f := 6) g0 (by decide)) rfl rfl rfl rfl rfl), h⟩
theorem kX14_node (l : Launch) (G : zG) (κ : Nat → Nat) (σ : rS) (x1 : Int) (x2 : Int) (x3 : Int) (x4 : Int) (hwf : rWF σ) (hx1 : rng x1) (hx2 : rng x2) (hx3 : rng x3) (hx4 : rng x4) (hp : pre_X14_node σ x1 x2 x3 x4) : rMi l G κ yX14_node cX14_node 6 .int 1 0 [.ref (κ 0), iv x1, iv x2, iv x3, iv x4] σ (fun x s => rKeep 0 0x80 0 0x7f 0 σ s ∧ post_X14_node σ x1 x2 x3 x4 x s) := wX14_node l G κ σ x1 x2 x3 x4 hwf hx1 hx2 hx3 hx4 (post_X14_node σ x1 x2 x3 x4) (vX14_node σ x1 x2 x3 x4 hwf hx1 hx2 hx3 hx4 hp) 
def pre_X14_check (σ : rS) (x1 : Int) (x2 : Int) (x3 : Int) (x4 : Int) : Prop := rgk (rR σ 7) ∧ 0 ≤ (rF σ (rR σ 7) 38) ∧ (rF σ (rR σ 7) 38) < 13000
def post_X14_check (σ : rS) (x1 : Int) (x2 : Int) (x3 : Int) (x4 : Int) (σ' : rS) : Prop := rF σ' (rR σ 7) 38 = (rF σ (rR σ 7) 38) + 1
def VC_X14_check (σ : rS) (x1 : Int) (x2 : Int) (x3 : Int) (x4 : Int) (Q : rS → Prop) : Prop := rgk (rR σ 7) ∧ (rng (rF σ (rR σ 7) 38) → (0 ≤ (rF σ (rR σ 7) 38) ∧ (rF σ (rR σ 7) 38) < 13000) ∧ (0 ≤ (rF σ (rR σ 7) 38) ∧ (rF σ (rR σ 7) 38) < 13000) ∧ (0 ≤ (rF σ (rR σ 7) 38) ∧ (rF σ (rR σ 7) 38) < 13000) ∧ (0 ≤ (rF σ (rR σ 7) 38) ∧ (rF σ (rR σ 7) 38) < 13000) ∧ (rng (rF σ 0 14) → (0 ≤ (rF σ (rR σ 7) 38) ∧ (rF σ (rR σ 7) 38) < 13000) ∧ rng ((rF σ (rR σ 7) 38) + 1) ∧ Q (sF (sA (sA (sA (sA (sA σ (1000 * ((rR σ 7) + 1) + 33) (rF σ (rR σ 7) 38) x1) (1000 * ((rR σ 7) + 1) + 34) (rF σ (rR σ 7) 38) x2) (1000 * ((rR σ 7) + 1) + 35) (rF σ (rR σ 7) 38) x3) (1000 * ((rR σ 7) + 1) + 36) (rF σ (rR σ 7) 38) x4) (1000 * ((rR σ 7) + 1) + 37) (rF σ (rR σ 7) 38) (rF σ 0 14)) (rR σ 7) 38 ((rF σ (rR σ 7) 38) + 1))))
set_option maxHeartbeats 400000 in
theorem vX14_check (σ : rS) (x1 : Int) (x2 : Int) (x3 : Int) (x4 : Int) (hwf : rWF σ) (hx1 : rng x1) (hx2 : rng x2) (hx3 : rng x3) (hx4 : rng x4) (hp : pre_X14_check σ x1 x2 x3 x4) : VC_X14_check σ x1 x2 x3 x4 (post_X14_check σ x1 x2 x3 x4) := by
  simp only [VC_X14_check, pre_X14_check, post_X14_check, rng, rfk, rNMp, rF_sF, rF_sA, rF_sL, rF_sR, rA_sA, rA_sF, rA_sL, rA_sR, rR_sF, rR_sA, rR_sL, rR_sR, reduceIte, and_true, true_and, and_false, false_and, and_self] at *
  (repeat' (first | with_reducible intro _ | with_reducible apply And.intro))
  all_goals (first | assumption | omega | grind (splits := 20) [rNM_sF0])
theorem wX14_check (l : Launch) (G : zG) (κ : Nat → Nat) (σ : rS) (x1 : Int) (x2 : Int) (x3 : Int) (x4 : Int) (hwf : rWF σ) (hx1 : rng x1) (hx2 : rng x2) (hx3 : rng x3) (hx4 : rng x4) (Q : rS → Prop) (h : VC_X14_check σ x1 x2 x3 x4 Q) : rMv l G κ yX14_check cX14_check 5 1 0 [.ref (κ 0), iv x1, iv x2, iv x3, iv x4] σ (fun s => rKeep 0 0x4000000000 0 0x3e00000000 0 σ s ∧ Q s) := by
  refine zMv.intro (by decide +kernel) (Nat.le_of_ble_eq_true rfl) (fun X hC hR => ?_)
  obtain ⟨g0, h⟩ := h
  refine z_aload_n hC (pc := 0) 0 dX14_check_0 rfl rfl ?_
  refine y_get hC (pc := 1) zf14 rOb_0 7 (v := .ref (κ (rR σ 7))) dX14_check_1 zw2475 (rv_g rfl rfl g0) (kk := ?_)
  refine y_getN hC (pc := 4) zf13 (rOb_k g0) 33 (v := .ref (κ (1000 * ((rR σ 7) + 1) + 33))) dX14_check_4 zw2374 (rv_c rfl) (kk := ?_)
  refine z_aload_n hC (pc := 7) 0 dX14_check_7 rfl rfl ?_
  refine y_get hC (pc := 8) zf14 rOb_0 7 (v := .ref (κ (rR σ 7))) dX14_check_8 zw2475 (rv_g rfl rfl g0) (kk := ?_)
  refine y_getN hC (pc := 11) zf13 (rOb_k g0) 38 (v := iv (rF σ (rR σ 7) 38)) dX14_check_11 zw2384 (rv_i (Or.inl rfl) rfl) (kk := ?_)
  have h := h (hwf.f _ _)
  refine z_iload_n hC (pc := 14) 1 dX14_check_14 rfl rfl ?_
  obtain ⟨b10, h⟩ := h
  refine y_iast hC (pc := 15) (rAr_k g0 rfl rfl) dX14_check_15 b10 (v := x1) (kk := ?_)
  have W11 := hwf.sA (p := (1000 * ((rR σ 7) + 1) + 33)) (i := (rF σ (rR σ 7) 38)) (x := x1) hx1
  refine z_aload_n hC (pc := 16) 0 dX14_check_16 rfl rfl ?_
  refine y_get hC (pc := 17) zf14 rOb_0 7 (v := .ref (κ (rR σ 7))) dX14_check_17 zw2475 (rv_g rfl rfl g0) (kk := ?_)
  refine y_getN hC (pc := 20) zf13 (rOb_k g0) 34 (v := .ref (κ (1000 * ((rR σ 7) + 1) + 34))) dX14_check_20 zw2376 (rv_c rfl) (kk := ?_)
  refine z_aload_n hC (pc := 23) 0 dX14_check_23 rfl rfl ?_
  refine y_get hC (pc := 24) zf14 rOb_0 7 (v := .ref (κ (rR σ 7))) dX14_check_24 zw2475 (rv_g rfl rfl g0) (kk := ?_)
  refine y_getN hC (pc := 27) zf13 (rOb_k g0) 38 (v := iv (rF σ (rR σ 7) 38)) dX14_check_27 zw2384 (rv_i (Or.inl rfl) rfl) (kk := ?_)
  refine z_iload_n hC (pc := 30) 2 dX14_check_30 rfl rfl ?_
  obtain ⟨b12, h⟩ := h
  refine y_iast hC (pc := 31) (rAr_k g0 rfl rfl) dX14_check_31 b12 (v := x2) (kk := ?_)
  have W13 := W11.sA (p := (1000 * ((rR σ 7) + 1) + 34)) (i := (rF σ (rR σ 7) 38)) (x := x2) hx2
  refine z_aload_n hC (pc := 32) 0 dX14_check_32 rfl rfl ?_
  refine y_get hC (pc := 33) zf14 rOb_0 7 (v := .ref (κ (rR σ 7))) dX14_check_33 zw2475 (rv_g rfl rfl g0) (kk := ?_)
  refine y_getN hC (pc := 36) zf13 (rOb_k g0) 35 (v := .ref (κ (1000 * ((rR σ 7) + 1) + 35))) dX14_check_36 zw2378 (rv_c rfl) (kk := ?_)
  refine z_aload_n hC (pc := 39) 0 dX14_check_39 rfl rfl ?_
  refine y_get hC (pc := 40) zf14 rOb_0 7 (v := .ref (κ (rR σ 7))) dX14_check_40 zw2475 (rv_g rfl rfl g0) (kk := ?_)
  refine y_getN hC (pc := 43) zf13 (rOb_k g0) 38 (v := iv (rF σ (rR σ 7) 38)) dX14_check_43 zw2384 (rv_i (Or.inl rfl) rfl) (kk := ?_)
  refine z_iload_n hC (pc := 46) 3 dX14_check_46 rfl rfl ?_
  obtain ⟨b14, h⟩ := h
  refine y_iast hC (pc := 47) (rAr_k g0 rfl rfl) dX14_check_47 b14 (v := x3) (kk := ?_)
  have W15 := W13.sA (p := (1000 * ((rR σ 7) + 1) + 35)) (i := (rF σ (rR σ 7) 38)) (x := x3) hx3
  refine z_aload_n hC (pc := 48) 0 dX14_check_48 rfl rfl ?_
  refine y_get hC (pc := 49) zf14 rOb_0 7 (v := .ref (κ (rR σ 7))) dX14_check_49 zw2475 (rv_g rfl rfl g0) (kk := ?_)
  refine y_getN hC (pc := 52) zf13 (rOb_k g0) 36 (v := .ref (κ (1000 * ((rR σ 7) + 1) + 36))) dX14_check_52 zw2380 (rv_c rfl) (kk := ?_)
  refine z_aload_n hC (pc := 55) 0 dX14_check_55 rfl rfl ?_
  refine y_get hC (pc := 56) zf14 rOb_0 7 (v := .ref (κ (rR σ 7))) dX14_check_56 zw2475 (rv_g rfl rfl g0) (kk := ?_)
  refine y_getN hC (pc := 59) zf13 (rOb_k g0) 38 (v := iv (rF σ (rR σ 7) 38)) dX14_check_59 zw2384 (rv_i (Or.inl rfl) rfl) (kk := ?_)
  refine z_iload hC (pc := 62) 4 dX14_check_62 rfl ?_
  obtain ⟨b16, h⟩ := h
  refine y_iast hC (pc := 64) (rAr_k g0 rfl rfl) dX14_check_64 b16 (v := x4) (kk := ?_)
  have W17 := W15.sA (p := (1000 * ((rR σ 7) + 1) + 36)) (i := (rF σ (rR σ 7) 38)) (x := x4) hx4
  refine z_aload_n hC (pc := 65) 0 dX14_check_65 rfl rfl ?_
  refine y_get hC (pc := 66) zf14 rOb_0 7 (v := .ref (κ (rR σ 7))) dX14_check_66 zw2475 (rv_g rfl rfl g0) (kk := ?_)
  refine y_getN hC (pc := 69) zf13 (rOb_k g0) 37 (v := .ref (κ (1000 * ((rR σ 7) + 1) + 37))) dX14_check_69 zw2382 (rv_c rfl) (kk := ?_)
  refine z_aload_n hC (pc := 72) 0 dX14_check_72 rfl rfl ?_
  refine y_get hC (pc := 73) zf14 rOb_0 7 (v := .ref (κ (rR σ 7))) dX14_check_73 zw2475 (rv_g rfl rfl g0) (kk := ?_)
  refine y_getN hC (pc := 76) zf13 (rOb_k g0) 38 (v := iv (rF σ (rR σ 7) 38)) dX14_check_76 zw2384 (rv_i (Or.inl rfl) rfl) (kk := ?_)
  refine z_aload_n hC (pc := 79) 0 dX14_check_79 rfl rfl ?_
  refine y_get hC (pc := 80) zf14 rOb_0 14 (v := iv (rF σ 0 14)) dX14_check_80 zw2481 (rv_i (Or.inl rfl) rfl) (kk := ?_)
  have h := h (hwf.f _ _)
  obtain ⟨b18, h⟩ := h
  refine y_iast hC (pc := 83) (rAr_k g0 rfl rfl) dX14_check_83 b18 (v := (rF σ 0 14)) (kk := ?_)
  have W19 := W17.sA (p := (1000 * ((rR σ 7) + 1) + 37)) (i := (rF σ (rR σ 7) 38)) (x := (rF σ 0 14)) (hwf.f _ _)
  refine z_aload_n hC (pc := 84) 0 dX14_check_84 rfl rfl ?_
  refine y_get hC (pc := 85) zf14 rOb_0 7 (v := .ref (κ (rR σ 7))) dX14_check_85 zw2475 (rv_g rfl rfl g0) (kk := ?_)
  refine z_dup hC (pc := 88) dX14_check_88 rfl ?_
  refine y_getN hC (pc := 89) zf13 (rOb_k g0) 38 (v := iv (rF σ (rR σ 7) 38)) dX14_check_89 zw2384 (rv_i (Or.inl rfl) rfl) (kk := ?_)
  refine z_iconst hC (pc := 92) (v := Int32.ofInt 1) dX14_check_92 (by decide) ?_
  refine y_iadd hC (pc := 93) (v := ((rF σ (rR σ 7) 38) + 1)) dX14_check_93 rfl ?_
  obtain ⟨r20, h⟩ := h
  refine y_putIN hC (pc := 94) zf13 (rOb_k g0) 38 (x := ((rF σ (rR σ 7) 38) + 1)) dX14_check_94 zw2384 (Or.inl rfl) rfl rfl (kk := ?_)
  have W21 := W19.sF (q := (rR σ 7)) (f := 38) (x := ((rF σ (rR σ 7) 38) + 1)) r20
  exact y_retv hR dX14_check_97 W21 (Nat.le_of_ble_eq_true rfl) (Nat.le_of_ble_eq_true rfl) ⟨(rKeep.tr (rKeep.tr (rKeep.tr (rKeep.tr (rKeep.tr (rKeep.tr rKeep.rf (rKeep.sAk (f := 33) g0 (by decide)) rfl rfl rfl rfl rfl) (rKeep.sAk (f := 34) g0 (by decide)) rfl rfl rfl rfl rfl) (rKeep.sAk (f := 35) g0 (by decide)) rfl rfl rfl rfl rfl) (rKeep.sAk (f := 36) g0 (by decide)) rfl rfl rfl rfl rfl) (rKeep.sAk (f := 37) g0 (by decide)) rfl rfl rfl rfl rfl) (rKeep.sFk (f := 38) g0) rfl rfl rfl rfl rfl), h⟩
theorem kX14_check (l : Launch) (G : zG) (κ : Nat → Nat) (σ : rS) (x1 : Int) (x2 : Int) (x3 : Int) (x4 : Int) (hwf : rWF σ) (hx1 : rng x1) (hx2 : rng x2) (hx3 : rng x3) (hx4 : rng x4) (hp : pre_X14_check σ x1 x2 x3 x4) : rMv l G κ yX14_check cX14_check 5 1 0 [.ref (κ 0), iv x1, iv x2, iv x3, iv x4] σ (fun s => rKeep 0 0x4000000000 0 0x3e00000000 0 σ s ∧ post_X14_check σ x1 x2 x3 x4 s) := wX14_check l G κ σ x1 x2 x3 x4 hwf hx1 hx2 hx3 hx4 (post_X14_check σ x1 x2 x3 x4) (vX14_check σ x1 x2 x3 x4 hwf hx1 hx2 hx3 hx4 hp) 
def pre_X14_wordEnd (σ : rS) (p0 n0 : Nat) (x1 : Int) (x2 : Int) : Prop := 0 ≤ x2 ∧ x1 ≤ n0 ∧ x1 ≤ 100000
def post_X14_wordEnd (σ : rS) (p0 n0 : Nat) (x1 : Int) (x2 : Int) (r : Int) : Prop := x2 ≤ r ∧ (r ≤ x1 ∨ r = x2)
def inv_X14_wordEnd_16 (σ : rS) (p0 n0 : Nat) (x1 : Int) (x2 : Int)  (s : rS) (k : Int) : Prop := x2 ≤ k ∧ (k ≤ x1 ∨ k = x2)
def mu_X14_wordEnd_16 (σ : rS) (p0 n0 : Nat) (x1 : Int) (x2 : Int) (s : rS) (k : Int) : Nat := (1 + (x1 - k).toNat)
def VC_X14_wordEnd (σ : rS) (p0 n0 : Nat) (x1 : Int) (x2 : Int) (Q : Int → Prop) : Prop := ((x1 ≤ x2 → Q x2) ∧ (¬ x1 ≤ x2 → (0 ≤ x2 ∧ x2 < n0) ∧ (rng (rA σ p0 x2) → pre_X14_isLetter σ (rA σ p0 x2) ∧ (∀ (x13 : Int), rng x13 → post_X14_isLetter σ (rA σ p0 x2) x13 → ((x13 = 0 → Q x2) ∧ (¬ x13 = 0 → (inv_X14_wordEnd_16 σ p0 n0 x1 x2 σ x2)))))))
def VC_X14_wordEnd_16 (σ : rS) (p0 n0 : Nat) (x1 : Int) (x2 : Int) (Q : Int → Prop) : Prop := ∀ (y14 : Int), rng y14 → inv_X14_wordEnd_16 σ p0 n0 x1 x2 σ y14 → (((x1 ≤ y14 → Q y14) ∧ (¬ x1 ≤ y14 → (0 ≤ y14 ∧ y14 < n0) ∧ (rng (rA σ p0 y14) → pre_X14_isLetter σ (rA σ p0 y14) ∧ (∀ (x18 : Int), rng x18 → post_X14_isLetter σ (rA σ p0 y14) x18 → ((¬ x18 = 0 → rng (y14 + 1) ∧ (inv_X14_wordEnd_16 σ p0 n0 x1 x2 σ (y14 + 1) ∧ (mu_X14_wordEnd_16 σ p0 n0 x1 x2 σ (y14 + 1)) < (mu_X14_wordEnd_16 σ p0 n0 x1 x2 σ y14))) ∧ (x18 = 0 → (0 ≤ y14 ∧ y14 < n0) ∧ pre_X14_isDigit σ (rA σ p0 y14) ∧ (∀ (x23 : Int), rng x23 → post_X14_isDigit σ (rA σ p0 y14) x23 → ((x23 = 0 → Q y14) ∧ (¬ x23 = 0 → rng (y14 + 1) ∧ (inv_X14_wordEnd_16 σ p0 n0 x1 x2 σ (y14 + 1) ∧ (mu_X14_wordEnd_16 σ p0 n0 x1 x2 σ (y14 + 1)) < (mu_X14_wordEnd_16 σ p0 n0 x1 x2 σ y14))))))))))))
def VC_X14_wordEnd_16m (σ : rS) (p0 n0 : Nat) (x1 : Int) (x2 : Int) : Prop := ∀ (y14 : Int), rng y14 → inv_X14_wordEnd_16 σ p0 n0 x1 x2 σ y14 → 0 < (mu_X14_wordEnd_16 σ p0 n0 x1 x2 σ y14)
set_option maxHeartbeats 400000 in
theorem vX14_wordEnd (σ : rS) (p0 n0 : Nat) (x1 : Int) (x2 : Int) (hwf : rWF σ) (ha0 : rAr 3 n0 p0) (hx1 : rng x1) (hx2 : rng x2) (hp : pre_X14_wordEnd σ p0 n0 x1 x2) : VC_X14_wordEnd σ p0 n0 x1 x2 (post_X14_wordEnd σ p0 n0 x1 x2) := by
  simp only [VC_X14_wordEnd, pre_X14_wordEnd, post_X14_wordEnd, inv_X14_wordEnd_16, mu_X14_wordEnd_16, pre_X14_isLetter, pre_X14_isDigit, post_X14_isLetter, post_X14_isDigit, rng, rfk, rNMp, rF_sF, rF_sA, rF_sL, rF_sR, rA_sA, rA_sF, rA_sL, rA_sR, rR_sF, rR_sA, rR_sL, rR_sR, reduceIte, and_true, true_and, and_false, false_and, and_self] at *
  (repeat' (first | with_reducible intro _ | with_reducible apply And.intro))
  all_goals (first | assumption | omega | grind (splits := 20) [rNM_sF0])
set_option maxHeartbeats 400000 in
theorem vX14_wordEnd_16 (σ : rS) (p0 n0 : Nat) (x1 : Int) (x2 : Int) (hwf : rWF σ) (ha0 : rAr 3 n0 p0) (hx1 : rng x1) (hx2 : rng x2) (hp : pre_X14_wordEnd σ p0 n0 x1 x2) : VC_X14_wordEnd_16 σ p0 n0 x1 x2 (post_X14_wordEnd σ p0 n0 x1 x2) := by
  simp only [VC_X14_wordEnd_16, pre_X14_wordEnd, post_X14_wordEnd, inv_X14_wordEnd_16, mu_X14_wordEnd_16, pre_X14_isLetter, pre_X14_isDigit, post_X14_isLetter, post_X14_isDigit, rng, rfk, rNMp, rF_sF, rF_sA, rF_sL, rF_sR, rA_sA, rA_sF, rA_sL, rA_sR, rR_sF, rR_sA, rR_sL, rR_sR, reduceIte, and_true, true_and, and_false, false_and, and_self] at *
  (repeat' (first | with_reducible intro _ | with_reducible apply And.intro))
  all_goals (first | assumption | omega | grind (splits := 20) [rNM_sF0])
set_option maxHeartbeats 400000 in
theorem vX14_wordEnd_16m (σ : rS) (p0 n0 : Nat) (x1 : Int) (x2 : Int) (hwf : rWF σ) (ha0 : rAr 3 n0 p0) (hx1 : rng x1) (hx2 : rng x2) (hp : pre_X14_wordEnd σ p0 n0 x1 x2) : VC_X14_wordEnd_16m σ p0 n0 x1 x2 := by
  simp only [VC_X14_wordEnd_16m, pre_X14_wordEnd, post_X14_wordEnd, inv_X14_wordEnd_16, mu_X14_wordEnd_16, pre_X14_isLetter, pre_X14_isDigit, post_X14_isLetter, post_X14_isDigit, rng, rfk, rNMp, rF_sF, rF_sA, rF_sL, rF_sR, rA_sA, rA_sF, rA_sL, rA_sR, rR_sF, rR_sA, rR_sL, rR_sR, reduceIte, and_true, true_and, and_false, false_and, and_self] at *
  (repeat' (first | with_reducible intro _ | with_reducible apply And.intro))
  all_goals (first | assumption | omega | grind (splits := 20) [rNM_sF0])
theorem wX14_wordEnd (l : Launch) (G : zG) (κ : Nat → Nat) (σ : rS) (p0 n0 : Nat) (x1 : Int) (x2 : Int) (hwf : rWF σ) (ha0 : rAr 3 n0 p0) (hx1 : rng x1) (hx2 : rng x2) (Q : Int → Prop) (h : VC_X14_wordEnd σ p0 n0 x1 x2 Q) (h_16 : VC_X14_wordEnd_16 σ p0 n0 x1 x2 Q) (h_16m : VC_X14_wordEnd_16m σ p0 n0 x1 x2) : rMi l G κ yX14_wordEnd cX14_wordEnd 4 .int 2 20 [.ref (κ p0), iv x1, iv x2] σ (fun x s => s = σ ∧ Q x) := by
  refine zMi.intro (by decide +kernel) (Nat.le_of_ble_eq_true rfl) (fun X hC hR => ?_)
  refine z_iload_n hC (pc := 0) 2 dX14_wordEnd_0 rfl rfl ?_
  refine z_istore_n hC (pc := 1) (lv' := [(3, iv x2), (0, .ref (κ p0)), (1, iv x1), (2, iv x2)]) dX14_wordEnd_1 rfl (by decide) rfl ?_
  refine z_iload_n hC (pc := 2) 0 dX14_wordEnd_2 rfl rfl ?_
  refine z_iload_n hC (pc := 3) 2 dX14_wordEnd_3 rfl rfl ?_
  obtain ⟨hT, hF⟩ := h
  refine y_icmp_ge hC (pc := 4) 45 hx2 hx1 dX14_wordEnd_4 (by decide) (fun c => ?_) (fun c => ?_)
  · have h := hT c
    refine z_iload_n hC (pc := 45) 0 dX14_wordEnd_45 rfl rfl ?_
    exact y_reti hR dX14_wordEnd_46 rfl hx2 hwf (Nat.le_of_ble_eq_true rfl) (Nat.le_of_ble_eq_true rfl) ⟨rfl, h⟩
  · have h := hF c
    refine z_aload_n hC (pc := 7) 1 dX14_wordEnd_7 rfl rfl ?_
    refine z_iload_n hC (pc := 8) 0 dX14_wordEnd_8 rfl rfl ?_
    obtain ⟨b10, h⟩ := h
    refine y_bald hC (pc := 9) ha0 dX14_wordEnd_9 b10 (v := (rA σ p0 x2)) rfl (kk := ?_)
    have h := h (hwf.a _ _)
    obtain ⟨p11, h⟩ := h
    refine y_callSi hC (pc := 10) (As := [iv (rA σ p0 x2)]) (kX14_isLetter l G κ σ (rA σ p0 x2) hwf (hwf.a _ _) p11) dmX14_isLetter dX14_wordEnd_10 zw3012 rfl rfl (Nat.le_of_ble_eq_true rfl) (Nat.le_of_ble_eq_true rfl) (Nat.le_of_ble_eq_true rfl) (Nat.le_of_ble_eq_true rfl) (Nat.le_of_ble_eq_true rfl) (kk := fun x13 s12 hx13 Ws12 qs12 => ?_)
    obtain ⟨es12, qs12⟩ := qs12
    have es12 := es12.symm
    subst es12
    have h := h x13 hx13 qs12
    have j16 : ∀ (d16 : Nat), ∀ (y14 : Int), rng y14 → inv_X14_wordEnd_16 σ p0 n0 x1 x2 σ y14 → (mu_X14_wordEnd_16 σ p0 n0 x1 x2 σ y14) ≤ d16 → zS X G 4 (rW G κ σ) [(0, .ref (κ p0)), (1, iv x1), (3, iv y14)] 0 0 16 [] := by
      intro d16
      induction d16 with
      | zero =>
        intro y14 hy14 hI hmu
        exact absurd hmu (by have := h_16m   y14  hy14  hI; omega)
      | succ d16 ih16 =>
        intro y14 hy14 hI hmu16
        have h := h_16   y14  hy14  hI
        refine z_iload_n hC (pc := 16) 2 dX14_wordEnd_16 rfl rfl ?_
        refine z_iload_n hC (pc := 17) 1 dX14_wordEnd_17 rfl rfl ?_
        obtain ⟨hT, hF⟩ := h
        refine y_icmp_ge hC (pc := 18) 45 hy14 hx1 dX14_wordEnd_18 (by decide) (fun c => ?_) (fun c => ?_)
        · have h := hT c
          refine z_iload_n hC (pc := 45) 2 dX14_wordEnd_45 rfl rfl ?_
          exact y_reti hR dX14_wordEnd_46 rfl hy14 hwf (Nat.le_of_ble_eq_true rfl) (Nat.le_of_ble_eq_true rfl) ⟨rfl, h⟩
        · have h := hF c
          refine z_aload_n hC (pc := 21) 0 dX14_wordEnd_21 rfl rfl ?_
          refine z_iload_n hC (pc := 22) 2 dX14_wordEnd_22 rfl rfl ?_
          obtain ⟨b15, h⟩ := h
          refine y_bald hC (pc := 23) ha0 dX14_wordEnd_23 b15 (v := (rA σ p0 y14)) rfl (kk := ?_)
          have h := h (hwf.a _ _)
          obtain ⟨p16, h⟩ := h
          refine y_callSi hC (pc := 24) (As := [iv (rA σ p0 y14)]) (kX14_isLetter l G κ σ (rA σ p0 y14) hwf (hwf.a _ _) p16) dmX14_isLetter dX14_wordEnd_24 zw3012 rfl rfl (Nat.le_of_ble_eq_true rfl) (Nat.le_of_ble_eq_true rfl) (Nat.le_of_ble_eq_true rfl) (Nat.le_of_ble_eq_true rfl) (Nat.le_of_ble_eq_true rfl) (kk := fun x18 s17 hx18 Ws17 qs17 => ?_)
          obtain ⟨es17, qs17⟩ := qs17
          have es17 := es17.symm
          subst es17
          have h := h x18 hx18 qs17
          obtain ⟨hT, hF⟩ := h
          refine y_if_ne hC (pc := 27) 39 hx18 dX14_wordEnd_27 (by decide) (fun c => ?_) (fun c => ?_)
          · have h := hT c
            refine y_iinc hC (pc := 39) (v := (y14 + 1)) (lv' := [(3, iv (y14 + 1)), (0, .ref (κ p0)), (1, iv x1)]) 2 dX14_wordEnd_39 rfl rfl (by decide) rfl ?_
            refine z_goto hC (pc := 42) 16 dX14_wordEnd_42 (by decide) ?_
            refine z_lvs [1, 2, 0] rfl ?_
            obtain ⟨r19, h⟩ := h
            obtain ⟨hI, hm⟩ := h
            exact ih16  (y14 + 1)  r19  hI (by omega)
          · have h := hF c
            refine z_aload_n hC (pc := 30) 0 dX14_wordEnd_30 rfl rfl ?_
            refine z_iload_n hC (pc := 31) 2 dX14_wordEnd_31 rfl rfl ?_
            obtain ⟨b20, h⟩ := h
            refine y_bald hC (pc := 32) ha0 dX14_wordEnd_32 b20 (v := (rA σ p0 y14)) rfl (kk := ?_)
            obtain ⟨p21, h⟩ := h
            refine y_callSi hC (pc := 33) (As := [iv (rA σ p0 y14)]) (kX14_isDigit l G κ σ (rA σ p0 y14) hwf (hwf.a _ _) p21) dmX14_isDigit dX14_wordEnd_33 zw3015 rfl rfl (Nat.le_of_ble_eq_true rfl) (Nat.le_of_ble_eq_true rfl) (Nat.le_of_ble_eq_true rfl) (Nat.le_of_ble_eq_true rfl) (Nat.le_of_ble_eq_true rfl) (kk := fun x23 s22 hx23 Ws22 qs22 => ?_)
            obtain ⟨es22, qs22⟩ := qs22
            have es22 := es22.symm
            subst es22
            have h := h x23 hx23 qs22
            obtain ⟨hT, hF⟩ := h
            refine y_if_eq hC (pc := 36) 45 hx23 dX14_wordEnd_36 (by decide) (fun c => ?_) (fun c => ?_)
            · have h := hT c
              refine z_iload_n hC (pc := 45) 2 dX14_wordEnd_45 rfl rfl ?_
              exact y_reti hR dX14_wordEnd_46 rfl hy14 hwf (Nat.le_of_ble_eq_true rfl) (Nat.le_of_ble_eq_true rfl) ⟨rfl, h⟩
            · have h := hF c
              refine y_iinc hC (pc := 39) (v := (y14 + 1)) (lv' := [(3, iv (y14 + 1)), (0, .ref (κ p0)), (1, iv x1)]) 2 dX14_wordEnd_39 rfl rfl (by decide) rfl ?_
              refine z_goto hC (pc := 42) 16 dX14_wordEnd_42 (by decide) ?_
              refine z_lvs [1, 2, 0] rfl ?_
              obtain ⟨r24, h⟩ := h
              obtain ⟨hI, hm⟩ := h
              exact ih16  (y14 + 1)  r24  hI (by omega)
    obtain ⟨hT, hF⟩ := h
    refine y_if_eq hC (pc := 13) 45 hx13 dX14_wordEnd_13 (by decide) (fun c => ?_) (fun c => ?_)
    · have h := hT c
      refine z_iload_n hC (pc := 45) 0 dX14_wordEnd_45 rfl rfl ?_
      exact y_reti hR dX14_wordEnd_46 rfl hx2 hwf (Nat.le_of_ble_eq_true rfl) (Nat.le_of_ble_eq_true rfl) ⟨rfl, h⟩
    · have h := hF c
      refine z_lvs [1, 2, 0] rfl ?_
      exact j16 _  x2  hx2  h (Nat.le_refl _)
theorem kX14_wordEnd (l : Launch) (G : zG) (κ : Nat → Nat) (σ : rS) (p0 n0 : Nat) (x1 : Int) (x2 : Int) (hwf : rWF σ) (ha0 : rAr 3 n0 p0) (hx1 : rng x1) (hx2 : rng x2) (hp : pre_X14_wordEnd σ p0 n0 x1 x2) : rMi l G κ yX14_wordEnd cX14_wordEnd 4 .int 2 20 [.ref (κ p0), iv x1, iv x2] σ (fun x s => s = σ ∧ post_X14_wordEnd σ p0 n0 x1 x2 x) := wX14_wordEnd l G κ σ p0 n0 x1 x2 hwf ha0 hx1 hx2 (post_X14_wordEnd σ p0 n0 x1 x2) (vX14_wordEnd σ p0 n0 x1 x2 hwf ha0 hx1 hx2 hp) (vX14_wordEnd_16 σ p0 n0 x1 x2 hwf ha0 hx1 hx2 hp) (vX14_wordEnd_16m σ p0 n0 x1 x2 hwf ha0 hx1 hx2 hp)
def pre_X14_ahead (σ : rS) (x1 : Int) : Prop := 0 ≤ x1 ∧ 0 ≤ (rF σ 0 16) ∧ (rF σ 0 16) ≤ 4000 ∧ rfk (rR σ 15) ∧ x1 ≤ (rF σ 0 16)
def post_X14_ahead (σ : rS) (x1 : Int) (r : Int) : Prop := r = -1 ∨ (x1 ≤ r ∧ r ≤ (rF σ 0 16))
def inv_X14_ahead_4 (σ : rS) (x1 : Int)  (s : rS) (k : Int) (more : Int) : Prop := x1 ≤ k ∧ k ≤ (rF σ 0 16) ∧ (more = 0 ∨ more = 1)
def mu_X14_ahead_4 (σ : rS) (x1 : Int) (s : rS) (k : Int) (more : Int) : Nat := (1 + 2 * (4000 - k) + more).toNat
def inv_X14_ahead_10 (σ : rS) (x1 : Int) (m4 : Nat) (s : rS) (k : Int) (more : Int) : Prop := x1 ≤ k ∧ k ≤ (rF σ 0 16) ∧ more = 0 ∧ 2 * (4000 - k) + 2 ≤ m4
def mu_X14_ahead_10 (σ : rS) (x1 : Int) (s : rS) (k : Int) (more : Int) : Nat := (1 + (4000 - k).toNat)
def inv_X14_ahead_49 (σ : rS) (x1 : Int) (m4 : Nat) (s : rS) (k : Int) : Prop := x1 ≤ k ∧ k ≤ (rF σ 0 16) ∧ 2 * (4000 - k) + 2 ≤ m4 ∧ (2 * (4000 - k) + 2 < m4 ∨ (k < (rF σ 0 16) ∧ (rA σ (rR σ 15) (k)) = 47))
def mu_X14_ahead_49 (σ : rS) (x1 : Int) (s : rS) (k : Int) : Nat := (1 + (4000 - k).toNat)
def inv_X14_ahead_104 (σ : rS) (x1 : Int) (m4 : Nat) (s : rS) (k : Int) : Prop := x1 ≤ k ∧ k ≤ (rF σ 0 16) ∧ 2 * (4000 - k) + 2 < m4
def mu_X14_ahead_104 (σ : rS) (x1 : Int) (s : rS) (k : Int) : Nat := (1 + (4002 - k).toNat)
def VC_X14_ahead (σ : rS) (x1 : Int) (Q : Int → Prop) : Prop := (inv_X14_ahead_4 σ x1 σ x1 1)
def VC_X14_ahead_104 (σ : rS) (x1 : Int) (Q : Int → Prop) : Prop := ∀ (m4 : Nat) (y30 : Int), rng y30 → inv_X14_ahead_104 σ x1 m4 σ y30 → ((rng (rF σ 0 16) → (((rF σ 0 16) ≤ y30 → ((y30 < (rF σ 0 16) → rng (y30 + 2) ∧ (inv_X14_ahead_4 σ x1 σ (y30 + 2) 1 ∧ (mu_X14_ahead_4 σ x1 σ (y30 + 2) 1) < m4)) ∧ (¬ y30 < (rF σ 0 16) → Q (-1)))) ∧ (¬ (rF σ 0 16) ≤ y30 → pre_X14_fc σ y30 ∧ (∀ (x34 : Int), rng x34 → post_X14_fc σ y30 x34 → ((¬ x34 = 42 → rng (y30 + 1) ∧ (inv_X14_ahead_104 σ x1 m4 σ (y30 + 1) ∧ (mu_X14_ahead_104 σ x1 σ (y30 + 1)) < (mu_X14_ahead_104 σ x1 σ y30))) ∧ (x34 = 42 → rng (y30 + 1) ∧ pre_X14_fc σ (y30 + 1) ∧ (∀ (x39 : Int), rng x39 → post_X14_fc σ (y30 + 1) x39 → ((x39 = 47 → ((y30 < (rF σ 0 16) → rng (y30 + 2) ∧ (inv_X14_ahead_4 σ x1 σ (y30 + 2) 1 ∧ (mu_X14_ahead_4 σ x1 σ (y30 + 2) 1) < m4)) ∧ (¬ y30 < (rF σ 0 16) → Q (-1)))) ∧ (¬ x39 = 47 → (inv_X14_ahead_104 σ x1 m4 σ (y30 + 1) ∧ (mu_X14_ahead_104 σ x1 σ (y30 + 1)) < (mu_X14_ahead_104 σ x1 σ y30))))))))))))
def VC_X14_ahead_104m (σ : rS) (x1 : Int) : Prop := ∀ (m4 : Nat) (y30 : Int), rng y30 → inv_X14_ahead_104 σ x1 m4 σ y30 → 0 < (mu_X14_ahead_104 σ x1 σ y30)
def VC_X14_ahead_49 (σ : rS) (x1 : Int) (Q : Int → Prop) : Prop := ∀ (m4 : Nat) (y46 : Int), rng y46 → inv_X14_ahead_49 σ x1 m4 σ y46 → ((rng (rF σ 0 16) → (((rF σ 0 16) ≤ y46 → (inv_X14_ahead_4 σ x1 σ y46 1 ∧ (mu_X14_ahead_4 σ x1 σ y46 1) < m4)) ∧ (¬ (rF σ 0 16) ≤ y46 → rfk (rR σ 15) ∧ (0 ≤ y46 ∧ y46 < 4000) ∧ (rng (rA σ (rR σ 15) y46) → (((rA σ (rR σ 15) y46) = 10 → (inv_X14_ahead_4 σ x1 σ y46 1 ∧ (mu_X14_ahead_4 σ x1 σ y46 1) < m4)) ∧ (¬ (rA σ (rR σ 15) y46) = 10 → rng (y46 + 1) ∧ (inv_X14_ahead_49 σ x1 m4 σ (y46 + 1) ∧ (mu_X14_ahead_49 σ x1 σ (y46 + 1)) < (mu_X14_ahead_49 σ x1 σ y46)))))))))
def VC_X14_ahead_49m (σ : rS) (x1 : Int) : Prop := ∀ (m4 : Nat) (y46 : Int), rng y46 → inv_X14_ahead_49 σ x1 m4 σ y46 → 0 < (mu_X14_ahead_49 σ x1 σ y46)
def VC_X14_ahead_10 (σ : rS) (x1 : Int) (Q : Int → Prop) : Prop := ∀ (m4 : Nat) (y12 : Int) (y13 : Int), rng y12 → rng y13 → inv_X14_ahead_10 σ x1 m4 σ y12 y13 → (pre_X14_fc σ y12 ∧ (∀ (x16 : Int), rng x16 → post_X14_fc σ y12 x16 → pre_X14_isBlank σ x16 ∧ (∀ (x19 : Int), rng x19 → post_X14_isBlank σ x16 x19 → ((x19 = 0 → pre_X14_fc σ y12 ∧ (∀ (x22 : Int), rng x22 → post_X14_fc σ y12 x22 → ((¬ x22 = 47 → pre_X14_fc σ y12 ∧ (∀ (x25 : Int), rng x25 → post_X14_fc σ y12 x25 → ((¬ x25 = 47 → (inv_X14_ahead_4 σ x1 σ y12 y13 ∧ (mu_X14_ahead_4 σ x1 σ y12 y13) < m4)) ∧ (x25 = 47 → rng (y12 + 1) ∧ pre_X14_fc σ (y12 + 1) ∧ (∀ (x29 : Int), rng x29 → post_X14_fc σ (y12 + 1) x29 → ((¬ x29 = 42 → (inv_X14_ahead_4 σ x1 σ y12 y13 ∧ (mu_X14_ahead_4 σ x1 σ y12 y13) < m4)) ∧ (x29 = 42 → rng (y12 + 2) ∧ (inv_X14_ahead_104 σ x1 m4 σ (y12 + 2))))))))) ∧ (x22 = 47 → rng (y12 + 1) ∧ pre_X14_fc σ (y12 + 1) ∧ (∀ (x45 : Int), rng x45 → post_X14_fc σ (y12 + 1) x45 → ((¬ x45 = 47 → pre_X14_fc σ y12 ∧ (∀ (x52 : Int), rng x52 → post_X14_fc σ y12 x52 → ((¬ x52 = 47 → (inv_X14_ahead_4 σ x1 σ y12 y13 ∧ (mu_X14_ahead_4 σ x1 σ y12 y13) < m4)) ∧ (x52 = 47 → pre_X14_fc σ (y12 + 1) ∧ (∀ (x55 : Int), rng x55 → post_X14_fc σ (y12 + 1) x55 → ((¬ x55 = 42 → (inv_X14_ahead_4 σ x1 σ y12 y13 ∧ (mu_X14_ahead_4 σ x1 σ y12 y13) < m4)) ∧ (x55 = 42 → rng (y12 + 2) ∧ (inv_X14_ahead_104 σ x1 m4 σ (y12 + 2))))))))) ∧ (x45 = 47 → (inv_X14_ahead_49 σ x1 m4 σ y12)))))))) ∧ (¬ x19 = 0 → rng (y12 + 1) ∧ (inv_X14_ahead_10 σ x1 m4 σ (y12 + 1) y13 ∧ (mu_X14_ahead_10 σ x1 σ (y12 + 1) y13) < (mu_X14_ahead_10 σ x1 σ y12 y13)))))))
def VC_X14_ahead_10m (σ : rS) (x1 : Int) : Prop := ∀ (m4 : Nat) (y12 : Int) (y13 : Int), rng y12 → rng y13 → inv_X14_ahead_10 σ x1 m4 σ y12 y13 → 0 < (mu_X14_ahead_10 σ x1 σ y12 y13)
def VC_X14_ahead_4 (σ : rS) (x1 : Int) (Q : Int → Prop) : Prop := ∀ (y10 : Int) (y11 : Int), rng y10 → rng y11 → inv_X14_ahead_4 σ x1 σ y10 y11 → (((y11 = 0 → Q y10) ∧ (¬ y11 = 0 → (inv_X14_ahead_10 σ x1 (mu_X14_ahead_4 σ x1 σ y10 y11) σ y10 0))))
def VC_X14_ahead_4m (σ : rS) (x1 : Int) : Prop := ∀ (y10 : Int) (y11 : Int), rng y10 → rng y11 → inv_X14_ahead_4 σ x1 σ y10 y11 → 0 < (mu_X14_ahead_4 σ x1 σ y10 y11)
set_option maxHeartbeats 400000 in
theorem vX14_ahead (σ : rS) (x1 : Int) (hwf : rWF σ) (hx1 : rng x1) (hp : pre_X14_ahead σ x1) : VC_X14_ahead σ x1 (post_X14_ahead σ x1) := by
  simp only [VC_X14_ahead, pre_X14_ahead, post_X14_ahead, inv_X14_ahead_4, inv_X14_ahead_10, inv_X14_ahead_49, inv_X14_ahead_104, mu_X14_ahead_4, mu_X14_ahead_10, mu_X14_ahead_49, mu_X14_ahead_104, pre_X14_isBlank, pre_X14_fc, post_X14_isBlank, post_X14_fc, rng, rfk, rNMp, rF_sF, rF_sA, rF_sL, rF_sR, rA_sA, rA_sF, rA_sL, rA_sR, rR_sF, rR_sA, rR_sL, rR_sR, reduceIte, and_true, true_and, and_false, false_and, and_self] at *
  (repeat' (first | with_reducible intro _ | with_reducible apply And.intro))
  all_goals (first | assumption | omega | grind (splits := 20) [rNM_sF0])
set_option maxHeartbeats 400000 in
theorem vX14_ahead_104 (σ : rS) (x1 : Int) (hwf : rWF σ) (hx1 : rng x1) (hp : pre_X14_ahead σ x1) : VC_X14_ahead_104 σ x1 (post_X14_ahead σ x1) := by
  simp only [VC_X14_ahead_104, pre_X14_ahead, post_X14_ahead, inv_X14_ahead_4, inv_X14_ahead_10, inv_X14_ahead_49, inv_X14_ahead_104, mu_X14_ahead_4, mu_X14_ahead_10, mu_X14_ahead_49, mu_X14_ahead_104, pre_X14_isBlank, pre_X14_fc, post_X14_isBlank, post_X14_fc, rng, rfk, rNMp, rF_sF, rF_sA, rF_sL, rF_sR, rA_sA, rA_sF, rA_sL, rA_sR, rR_sF, rR_sA, rR_sL, rR_sR, reduceIte, and_true, true_and, and_false, false_and, and_self] at *
  (repeat' (first | with_reducible intro _ | with_reducible apply And.intro))
  all_goals (first | assumption | omega | grind (splits := 20) [rNM_sF0])
set_option maxHeartbeats 400000 in
theorem vX14_ahead_104m (σ : rS) (x1 : Int) (hwf : rWF σ) (hx1 : rng x1) (hp : pre_X14_ahead σ x1) : VC_X14_ahead_104m σ x1 := by
  simp only [VC_X14_ahead_104m, pre_X14_ahead, post_X14_ahead, inv_X14_ahead_4, inv_X14_ahead_10, inv_X14_ahead_49, inv_X14_ahead_104, mu_X14_ahead_4, mu_X14_ahead_10, mu_X14_ahead_49, mu_X14_ahead_104, pre_X14_isBlank, pre_X14_fc, post_X14_isBlank, post_X14_fc, rng, rfk, rNMp, rF_sF, rF_sA, rF_sL, rF_sR, rA_sA, rA_sF, rA_sL, rA_sR, rR_sF, rR_sA, rR_sL, rR_sR, reduceIte, and_true, true_and, and_false, false_and, and_self] at *
  (repeat' (first | with_reducible intro _ | with_reducible apply And.intro))
  all_goals (first | assumption | omega | grind (splits := 20) [rNM_sF0])
set_option maxHeartbeats 400000 in
theorem vX14_ahead_49 (σ : rS) (x1 : Int) (hwf : rWF σ) (hx1 : rng x1) (hp : pre_X14_ahead σ x1) : VC_X14_ahead_49 σ x1 (post_X14_ahead σ x1) := by
  simp only [VC_X14_ahead_49, pre_X14_ahead, post_X14_ahead, inv_X14_ahead_4, inv_X14_ahead_10, inv_X14_ahead_49, inv_X14_ahead_104, mu_X14_ahead_4, mu_X14_ahead_10, mu_X14_ahead_49, mu_X14_ahead_104, pre_X14_isBlank, pre_X14_fc, post_X14_isBlank, post_X14_fc, rng, rfk, rNMp, rF_sF, rF_sA, rF_sL, rF_sR, rA_sA, rA_sF, rA_sL, rA_sR, rR_sF, rR_sA, rR_sL, rR_sR, reduceIte, and_true, true_and, and_false, false_and, and_self] at *
  (repeat' (first | with_reducible intro _ | with_reducible apply And.intro))
  all_goals (first | assumption | omega | grind (splits := 20) [rNM_sF0])
set_option maxHeartbeats 400000 in
theorem vX14_ahead_49m (σ : rS) (x1 : Int) (hwf : rWF σ) (hx1 : rng x1) (hp : pre_X14_ahead σ x1) : VC_X14_ahead_49m σ x1 := by
  simp only [VC_X14_ahead_49m, pre_X14_ahead, post_X14_ahead, inv_X14_ahead_4, inv_X14_ahead_10, inv_X14_ahead_49, inv_X14_ahead_104, mu_X14_ahead_4, mu_X14_ahead_10, mu_X14_ahead_49, mu_X14_ahead_104, pre_X14_isBlank, pre_X14_fc, post_X14_isBlank, post_X14_fc, rng, rfk, rNMp, rF_sF, rF_sA, rF_sL, rF_sR, rA_sA, rA_sF, rA_sL, rA_sR, rR_sF, rR_sA, rR_sL, rR_sR, reduceIte, and_true, true_and, and_false, false_and, and_self] at *
  (repeat' (first | with_reducible intro _ | with_reducible apply And.intro))
  all_goals (first | assumption | omega | grind (splits := 20) [rNM_sF0])
set_option maxHeartbeats 400000 in
theorem vX14_ahead_10 (σ : rS) (x1 : Int) (hwf : rWF σ) (hx1 : rng x1) (hp : pre_X14_ahead σ x1) : VC_X14_ahead_10 σ x1 (post_X14_ahead σ x1) := by
  simp only [VC_X14_ahead_10, pre_X14_ahead, post_X14_ahead, inv_X14_ahead_4, inv_X14_ahead_10, inv_X14_ahead_49, inv_X14_ahead_104, mu_X14_ahead_4, mu_X14_ahead_10, mu_X14_ahead_49, mu_X14_ahead_104, pre_X14_isBlank, pre_X14_fc, post_X14_isBlank, post_X14_fc, rng, rfk, rNMp, rF_sF, rF_sA, rF_sL, rF_sR, rA_sA, rA_sF, rA_sL, rA_sR, rR_sF, rR_sA, rR_sL, rR_sR, reduceIte, and_true, true_and, and_false, false_and, and_self] at *
  (repeat' (first | with_reducible intro _ | with_reducible apply And.intro))
  all_goals (first | assumption | omega | grind (splits := 20) [rNM_sF0])
set_option maxHeartbeats 400000 in
theorem vX14_ahead_10m (σ : rS) (x1 : Int) (hwf : rWF σ) (hx1 : rng x1) (hp : pre_X14_ahead σ x1) : VC_X14_ahead_10m σ x1 := by
  simp only [VC_X14_ahead_10m, pre_X14_ahead, post_X14_ahead, inv_X14_ahead_4, inv_X14_ahead_10, inv_X14_ahead_49, inv_X14_ahead_104, mu_X14_ahead_4, mu_X14_ahead_10, mu_X14_ahead_49, mu_X14_ahead_104, pre_X14_isBlank, pre_X14_fc, post_X14_isBlank, post_X14_fc, rng, rfk, rNMp, rF_sF, rF_sA, rF_sL, rF_sR, rA_sA, rA_sF, rA_sL, rA_sR, rR_sF, rR_sA, rR_sL, rR_sR, reduceIte, and_true, true_and, and_false, false_and, and_self] at *
  (repeat' (first | with_reducible intro _ | with_reducible apply And.intro))
  all_goals (first | assumption | omega | grind (splits := 20) [rNM_sF0])
set_option maxHeartbeats 400000 in
theorem vX14_ahead_4 (σ : rS) (x1 : Int) (hwf : rWF σ) (hx1 : rng x1) (hp : pre_X14_ahead σ x1) : VC_X14_ahead_4 σ x1 (post_X14_ahead σ x1) := by
  simp only [VC_X14_ahead_4, pre_X14_ahead, post_X14_ahead, inv_X14_ahead_4, inv_X14_ahead_10, inv_X14_ahead_49, inv_X14_ahead_104, mu_X14_ahead_4, mu_X14_ahead_10, mu_X14_ahead_49, mu_X14_ahead_104, pre_X14_isBlank, pre_X14_fc, post_X14_isBlank, post_X14_fc, rng, rfk, rNMp, rF_sF, rF_sA, rF_sL, rF_sR, rA_sA, rA_sF, rA_sL, rA_sR, rR_sF, rR_sA, rR_sL, rR_sR, reduceIte, and_true, true_and, and_false, false_and, and_self] at *
  (repeat' (first | with_reducible intro _ | with_reducible apply And.intro))
  all_goals (first | assumption | omega | grind (splits := 20) [rNM_sF0])
set_option maxHeartbeats 400000 in
theorem vX14_ahead_4m (σ : rS) (x1 : Int) (hwf : rWF σ) (hx1 : rng x1) (hp : pre_X14_ahead σ x1) : VC_X14_ahead_4m σ x1 := by
  simp only [VC_X14_ahead_4m, pre_X14_ahead, post_X14_ahead, inv_X14_ahead_4, inv_X14_ahead_10, inv_X14_ahead_49, inv_X14_ahead_104, mu_X14_ahead_4, mu_X14_ahead_10, mu_X14_ahead_49, mu_X14_ahead_104, pre_X14_isBlank, pre_X14_fc, post_X14_isBlank, post_X14_fc, rng, rfk, rNMp, rF_sF, rF_sA, rF_sL, rF_sR, rA_sA, rA_sF, rA_sL, rA_sR, rR_sF, rR_sA, rR_sL, rR_sR, reduceIte, and_true, true_and, and_false, false_and, and_self] at *
  (repeat' (first | with_reducible intro _ | with_reducible apply And.intro))
  all_goals (first | assumption | omega | grind (splits := 20) [rNM_sF0])
theorem wX14_ahead (l : Launch) (G : zG) (κ : Nat → Nat) (σ : rS) (x1 : Int) (hwf : rWF σ) (hx1 : rng x1) (Q : Int → Prop) (h : VC_X14_ahead σ x1 Q) (h_104 : VC_X14_ahead_104 σ x1 Q) (h_104m : VC_X14_ahead_104m σ x1) (h_49 : VC_X14_ahead_49 σ x1 Q) (h_49m : VC_X14_ahead_49m σ x1) (h_10 : VC_X14_ahead_10 σ x1 Q) (h_10m : VC_X14_ahead_10m σ x1) (h_4 : VC_X14_ahead_4 σ x1 Q) (h_4m : VC_X14_ahead_4m σ x1) : rMi l G κ yX14_ahead cX14_ahead 4 .int 2 21 [.ref (κ 0), iv x1] σ (fun x s => s = σ ∧ Q x) := by
  refine zMi.intro (by decide +kernel) (Nat.le_of_ble_eq_true rfl) (fun X hC hR => ?_)
  refine z_iload_n hC (pc := 0) 1 dX14_ahead_0 rfl rfl ?_
  refine z_istore_n hC (pc := 1) (lv' := [(2, iv x1), (0, .ref (κ 0)), (1, iv x1)]) dX14_ahead_1 rfl (by decide) rfl ?_
  refine z_iconst hC (pc := 2) (v := Int32.ofInt 1) dX14_ahead_2 (by decide) ?_
  refine z_istore_n hC (pc := 3) (lv' := [(3, iv 1), (2, iv x1), (0, .ref (κ 0)), (1, iv x1)]) dX14_ahead_3 rfl (by decide) rfl ?_
  have j4 : ∀ (d4 : Nat), ∀ (y10 : Int) (y11 : Int), rng y10 → rng y11 → inv_X14_ahead_4 σ x1 σ y10 y11 → (mu_X14_ahead_4 σ x1 σ y10 y11) ≤ d4 → zS X G 4 (rW G κ σ) [(0, .ref (κ 0)), (2, iv y10), (3, iv y11)] 0 0 4 [] := by
    intro d4
    induction d4 with
    | zero =>
      intro y10 y11 hy10 hy11 hI hmu
      exact absurd hmu (by have := h_4m   y10 y11  hy10 hy11  hI; omega)
    | succ d4 ih4 =>
      intro y10 y11 hy10 hy11 hI hmu4
      have h := h_4   y10 y11  hy10 hy11  hI
      refine z_iload_n hC (pc := 4) 2 dX14_ahead_4 rfl rfl ?_
      obtain ⟨hT, hF⟩ := h
      refine y_if_eq hC (pc := 5) 158 hy11 dX14_ahead_5 (by decide) (fun c => ?_) (fun c => ?_)
      · have h := hT c
        refine z_iload_n hC (pc := 158) 1 dX14_ahead_158 rfl rfl ?_
        exact y_reti hR dX14_ahead_159 rfl hy10 hwf (Nat.le_of_ble_eq_true rfl) (Nat.le_of_ble_eq_true rfl) ⟨rfl, h⟩
      · have h := hF c
        refine z_iconst hC (pc := 8) (v := Int32.ofInt 0) dX14_ahead_8 (by decide) ?_
        refine z_istore_n hC (pc := 9) (lv' := [(3, iv 0), (0, .ref (κ 0)), (2, iv y10)]) dX14_ahead_9 rfl (by decide) rfl ?_
        have j10 : ∀ (d10 : Nat), ∀ (y12 : Int) (y13 : Int), rng y12 → rng y13 → inv_X14_ahead_10 σ x1 (mu_X14_ahead_4 σ x1 σ y10 y11) σ y12 y13 → (mu_X14_ahead_10 σ x1 σ y12 y13) ≤ d10 → zS X G 4 (rW G κ σ) [(0, .ref (κ 0)), (2, iv y12), (3, iv y13)] 0 0 10 [] := by
          intro d10
          induction d10 with
          | zero =>
            intro y12 y13 hy12 hy13 hI hmu
            exact absurd hmu (by have := h_10m (mu_X14_ahead_4 σ x1 σ y10 y11)  y12 y13  hy12 hy13  hI; omega)
          | succ d10 ih10 =>
            intro y12 y13 hy12 hy13 hI hmu10
            have h := h_10 (mu_X14_ahead_4 σ x1 σ y10 y11)  y12 y13  hy12 hy13  hI
            refine z_aload_n hC (pc := 10) 0 dX14_ahead_10 rfl rfl ?_
            refine z_iload_n hC (pc := 11) 1 dX14_ahead_11 rfl rfl ?_
            obtain ⟨p14, h⟩ := h
            refine y_callVi hC (pc := 12) (As := [iv y12]) (kX14_fc l G κ σ y12 hwf hy12 p14) dmX14_fc zf14 rOb_0 dX14_ahead_12 zw2993 rfl rfl (Nat.le_of_ble_eq_true rfl) (Nat.le_of_ble_eq_true rfl) (Nat.le_of_ble_eq_true rfl) (Nat.le_of_ble_eq_true rfl) (Nat.le_of_ble_eq_true rfl) (kk := fun x16 s15 hx16 Ws15 qs15 => ?_)
            obtain ⟨es15, qs15⟩ := qs15
            have es15 := es15.symm
            subst es15
            have h := h x16 hx16 qs15
            obtain ⟨p17, h⟩ := h
            refine y_callSi hC (pc := 15) (As := [iv x16]) (kX14_isBlank l G κ σ x16 hwf hx16 p17) dmX14_isBlank dX14_ahead_15 zw2997 rfl rfl (Nat.le_of_ble_eq_true rfl) (Nat.le_of_ble_eq_true rfl) (Nat.le_of_ble_eq_true rfl) (Nat.le_of_ble_eq_true rfl) (Nat.le_of_ble_eq_true rfl) (kk := fun x19 s18 hx19 Ws18 qs18 => ?_)
            obtain ⟨es18, qs18⟩ := qs18
            have es18 := es18.symm
            subst es18
            have h := h x19 hx19 qs18
            obtain ⟨hT, hF⟩ := h
            refine y_if_eq hC (pc := 18) 27 hx19 dX14_ahead_18 (by decide) (fun c => ?_) (fun c => ?_)
            · have h := hT c
              refine z_aload_n hC (pc := 27) 0 dX14_ahead_27 rfl rfl ?_
              refine z_iload_n hC (pc := 28) 1 dX14_ahead_28 rfl rfl ?_
              obtain ⟨p20, h⟩ := h
              refine y_callVi hC (pc := 29) (As := [iv y12]) (kX14_fc l G κ σ y12 hwf hy12 p20) dmX14_fc zf14 rOb_0 dX14_ahead_29 zw2993 rfl rfl (Nat.le_of_ble_eq_true rfl) (Nat.le_of_ble_eq_true rfl) (Nat.le_of_ble_eq_true rfl) (Nat.le_of_ble_eq_true rfl) (Nat.le_of_ble_eq_true rfl) (kk := fun x22 s21 hx22 Ws21 qs21 => ?_)
              obtain ⟨es21, qs21⟩ := qs21
              have es21 := es21.symm
              subst es21
              have h := h x22 hx22 qs21
              refine z_bipush hC (pc := 32) (v := Int32.ofInt 47) dX14_ahead_32 (by decide) ?_
              obtain ⟨hT, hF⟩ := h
              refine y_icmp_ne hC (pc := 34) 79 hx22 (r_lit rfl) dX14_ahead_34 (by decide) (fun c => ?_) (fun c => ?_)
              · have h := hT c
                refine z_aload_n hC (pc := 79) 0 dX14_ahead_79 rfl rfl ?_
                refine z_iload_n hC (pc := 80) 1 dX14_ahead_80 rfl rfl ?_
                obtain ⟨p23, h⟩ := h
                refine y_callVi hC (pc := 81) (As := [iv y12]) (kX14_fc l G κ σ y12 hwf hy12 p23) dmX14_fc zf14 rOb_0 dX14_ahead_81 zw2993 rfl rfl (Nat.le_of_ble_eq_true rfl) (Nat.le_of_ble_eq_true rfl) (Nat.le_of_ble_eq_true rfl) (Nat.le_of_ble_eq_true rfl) (Nat.le_of_ble_eq_true rfl) (kk := fun x25 s24 hx25 Ws24 qs24 => ?_)
                obtain ⟨es24, qs24⟩ := qs24
                have es24 := es24.symm
                subst es24
                have h := h x25 hx25 qs24
                refine z_bipush hC (pc := 84) (v := Int32.ofInt 47) dX14_ahead_84 (by decide) ?_
                obtain ⟨hT, hF⟩ := h
                refine y_icmp_ne hC (pc := 86) 4 hx25 (r_lit rfl) dX14_ahead_86 (by decide) (fun c => ?_) (fun c => ?_)
                · have h := hT c
                  obtain ⟨hI, hm⟩ := h
                  exact ih4  y12 y13  hy12 hy13  hI (by omega)
                · have h := hF c
                  refine z_aload_n hC (pc := 89) 0 dX14_ahead_89 rfl rfl ?_
                  refine z_iload_n hC (pc := 90) 1 dX14_ahead_90 rfl rfl ?_
                  refine z_iconst hC (pc := 91) (v := Int32.ofInt 1) dX14_ahead_91 (by decide) ?_
                  refine y_iadd hC (pc := 92) (v := (y12 + 1)) dX14_ahead_92 rfl ?_
                  obtain ⟨r26, h⟩ := h
                  obtain ⟨p27, h⟩ := h
                  refine y_callVi hC (pc := 93) (As := [iv (y12 + 1)]) (kX14_fc l G κ σ (y12 + 1) hwf r26 p27) dmX14_fc zf14 rOb_0 dX14_ahead_93 zw2993 rfl rfl (Nat.le_of_ble_eq_true rfl) (Nat.le_of_ble_eq_true rfl) (Nat.le_of_ble_eq_true rfl) (Nat.le_of_ble_eq_true rfl) (Nat.le_of_ble_eq_true rfl) (kk := fun x29 s28 hx29 Ws28 qs28 => ?_)
                  obtain ⟨es28, qs28⟩ := qs28
                  have es28 := es28.symm
                  subst es28
                  have h := h x29 hx29 qs28
                  refine z_bipush hC (pc := 96) (v := Int32.ofInt 42) dX14_ahead_96 (by decide) ?_
                  obtain ⟨hT, hF⟩ := h
                  refine y_icmp_ne hC (pc := 98) 4 hx29 (r_lit rfl) dX14_ahead_98 (by decide) (fun c => ?_) (fun c => ?_)
                  · have h := hT c
                    obtain ⟨hI, hm⟩ := h
                    exact ih4  y12 y13  hy12 hy13  hI (by omega)
                  · have h := hF c
                    refine y_iinc hC (pc := 101) (v := (y12 + 2)) (lv' := [(2, iv (y12 + 2)), (0, .ref (κ 0)), (3, iv y13)]) 1 dX14_ahead_101 rfl rfl (by decide) rfl ?_
                    have j104 : ∀ (d104 : Nat), ∀ (y30 : Int), rng y30 → inv_X14_ahead_104 σ x1 (mu_X14_ahead_4 σ x1 σ y10 y11) σ y30 → (mu_X14_ahead_104 σ x1 σ y30) ≤ d104 → zS X G 4 (rW G κ σ) [(0, .ref (κ 0)), (2, iv y30)] 0 0 104 [] := by
                      intro d104
                      induction d104 with
                      | zero =>
                        intro y30 hy30 hI hmu
                        exact absurd hmu (by have := h_104m (mu_X14_ahead_4 σ x1 σ y10 y11)  y30  hy30  hI; omega)
                      | succ d104 ih104 =>
                        intro y30 hy30 hI hmu104
                        have h := h_104 (mu_X14_ahead_4 σ x1 σ y10 y11)  y30  hy30  hI
                        refine z_iload_n hC (pc := 104) 1 dX14_ahead_104 rfl rfl ?_
                        refine z_aload_n hC (pc := 105) 0 dX14_ahead_105 rfl rfl ?_
                        refine y_get hC (pc := 106) zf14 rOb_0 16 (v := iv (rF σ 0 16)) dX14_ahead_106 zw2483 (rv_i (Or.inl rfl) rfl) (kk := ?_)
                        have h := h (hwf.f _ _)
                        obtain ⟨hT, hF⟩ := h
                        refine y_icmp_ge hC (pc := 109) 140 hy30 (hwf.f _ _) dX14_ahead_109 (by decide) (fun c => ?_) (fun c => ?_)
                        · have h := hT c
                          refine z_iload_n hC (pc := 140) 1 dX14_ahead_140 rfl rfl ?_
                          refine z_aload_n hC (pc := 141) 0 dX14_ahead_141 rfl rfl ?_
                          refine y_get hC (pc := 142) zf14 rOb_0 16 (v := iv (rF σ 0 16)) dX14_ahead_142 zw2483 (rv_i (Or.inl rfl) rfl) (kk := ?_)
                          obtain ⟨hT, hF⟩ := h
                          refine y_icmp_lt hC (pc := 145) 150 hy30 (hwf.f _ _) dX14_ahead_145 (by decide) (fun c => ?_) (fun c => ?_)
                          · have h := hT c
                            refine y_iinc hC (pc := 150) (v := (y30 + 2)) (lv' := [(2, iv (y30 + 2)), (0, .ref (κ 0))]) 1 dX14_ahead_150 rfl rfl (by decide) rfl ?_
                            refine z_iconst hC (pc := 153) (v := Int32.ofInt 1) dX14_ahead_153 (by decide) ?_
                            refine z_istore_n hC (pc := 154) (lv' := [(3, iv 1), (2, iv (y30 + 2)), (0, .ref (κ 0))]) dX14_ahead_154 rfl (by decide) rfl ?_
                            refine z_goto hC (pc := 155) 4 dX14_ahead_155 (by decide) ?_
                            refine z_lvs [2, 1, 0] rfl ?_
                            obtain ⟨r31, h⟩ := h
                            obtain ⟨hI, hm⟩ := h
                            exact ih4  (y30 + 2) 1  r31 (r_lit rfl)  hI (by omega)
                          · have h := hF c
                            refine z_iconst hC (pc := 148) (v := Int32.ofInt (-1)) dX14_ahead_148 (by decide) ?_
                            exact y_reti hR dX14_ahead_149 rfl (r_lit rfl) hwf (Nat.le_of_ble_eq_true rfl) (Nat.le_of_ble_eq_true rfl) ⟨rfl, h⟩
                        · have h := hF c
                          refine z_aload_n hC (pc := 112) 0 dX14_ahead_112 rfl rfl ?_
                          refine z_iload_n hC (pc := 113) 1 dX14_ahead_113 rfl rfl ?_
                          obtain ⟨p32, h⟩ := h
                          refine y_callVi hC (pc := 114) (As := [iv y30]) (kX14_fc l G κ σ y30 hwf hy30 p32) dmX14_fc zf14 rOb_0 dX14_ahead_114 zw2993 rfl rfl (Nat.le_of_ble_eq_true rfl) (Nat.le_of_ble_eq_true rfl) (Nat.le_of_ble_eq_true rfl) (Nat.le_of_ble_eq_true rfl) (Nat.le_of_ble_eq_true rfl) (kk := fun x34 s33 hx34 Ws33 qs33 => ?_)
                          obtain ⟨es33, qs33⟩ := qs33
                          have es33 := es33.symm
                          subst es33
                          have h := h x34 hx34 qs33
                          refine z_bipush hC (pc := 117) (v := Int32.ofInt 42) dX14_ahead_117 (by decide) ?_
                          obtain ⟨hT, hF⟩ := h
                          refine y_icmp_ne hC (pc := 119) 134 hx34 (r_lit rfl) dX14_ahead_119 (by decide) (fun c => ?_) (fun c => ?_)
                          · have h := hT c
                            refine y_iinc hC (pc := 134) (v := (y30 + 1)) (lv' := [(2, iv (y30 + 1)), (0, .ref (κ 0))]) 1 dX14_ahead_134 rfl rfl (by decide) rfl ?_
                            refine z_goto hC (pc := 137) 104 dX14_ahead_137 (by decide) ?_
                            refine z_lvs [1, 0] rfl ?_
                            obtain ⟨r35, h⟩ := h
                            obtain ⟨hI, hm⟩ := h
                            exact ih104  (y30 + 1)  r35  hI (by omega)
                          · have h := hF c
                            refine z_aload_n hC (pc := 122) 0 dX14_ahead_122 rfl rfl ?_
                            refine z_iload_n hC (pc := 123) 1 dX14_ahead_123 rfl rfl ?_
                            refine z_iconst hC (pc := 124) (v := Int32.ofInt 1) dX14_ahead_124 (by decide) ?_
                            refine y_iadd hC (pc := 125) (v := (y30 + 1)) dX14_ahead_125 rfl ?_
                            obtain ⟨r36, h⟩ := h
                            obtain ⟨p37, h⟩ := h
                            refine y_callVi hC (pc := 126) (As := [iv (y30 + 1)]) (kX14_fc l G κ σ (y30 + 1) hwf r36 p37) dmX14_fc zf14 rOb_0 dX14_ahead_126 zw2993 rfl rfl (Nat.le_of_ble_eq_true rfl) (Nat.le_of_ble_eq_true rfl) (Nat.le_of_ble_eq_true rfl) (Nat.le_of_ble_eq_true rfl) (Nat.le_of_ble_eq_true rfl) (kk := fun x39 s38 hx39 Ws38 qs38 => ?_)
                            obtain ⟨es38, qs38⟩ := qs38
                            have es38 := es38.symm
                            subst es38
                            have h := h x39 hx39 qs38
                            refine z_bipush hC (pc := 129) (v := Int32.ofInt 47) dX14_ahead_129 (by decide) ?_
                            obtain ⟨hT, hF⟩ := h
                            refine y_icmp_eq hC (pc := 131) 140 hx39 (r_lit rfl) dX14_ahead_131 (by decide) (fun c => ?_) (fun c => ?_)
                            · have h := hT c
                              refine z_iload_n hC (pc := 140) 1 dX14_ahead_140 rfl rfl ?_
                              refine z_aload_n hC (pc := 141) 0 dX14_ahead_141 rfl rfl ?_
                              refine y_get hC (pc := 142) zf14 rOb_0 16 (v := iv (rF σ 0 16)) dX14_ahead_142 zw2483 (rv_i (Or.inl rfl) rfl) (kk := ?_)
                              obtain ⟨hT, hF⟩ := h
                              refine y_icmp_lt hC (pc := 145) 150 hy30 (hwf.f _ _) dX14_ahead_145 (by decide) (fun c => ?_) (fun c => ?_)
                              · have h := hT c
                                refine y_iinc hC (pc := 150) (v := (y30 + 2)) (lv' := [(2, iv (y30 + 2)), (0, .ref (κ 0))]) 1 dX14_ahead_150 rfl rfl (by decide) rfl ?_
                                refine z_iconst hC (pc := 153) (v := Int32.ofInt 1) dX14_ahead_153 (by decide) ?_
                                refine z_istore_n hC (pc := 154) (lv' := [(3, iv 1), (2, iv (y30 + 2)), (0, .ref (κ 0))]) dX14_ahead_154 rfl (by decide) rfl ?_
                                refine z_goto hC (pc := 155) 4 dX14_ahead_155 (by decide) ?_
                                refine z_lvs [2, 1, 0] rfl ?_
                                obtain ⟨r40, h⟩ := h
                                obtain ⟨hI, hm⟩ := h
                                exact ih4  (y30 + 2) 1  r40 (r_lit rfl)  hI (by omega)
                              · have h := hF c
                                refine z_iconst hC (pc := 148) (v := Int32.ofInt (-1)) dX14_ahead_148 (by decide) ?_
                                exact y_reti hR dX14_ahead_149 rfl (r_lit rfl) hwf (Nat.le_of_ble_eq_true rfl) (Nat.le_of_ble_eq_true rfl) ⟨rfl, h⟩
                            · have h := hF c
                              refine y_iinc hC (pc := 134) (v := (y30 + 1)) (lv' := [(2, iv (y30 + 1)), (0, .ref (κ 0))]) 1 dX14_ahead_134 rfl rfl (by decide) rfl ?_
                              refine z_goto hC (pc := 137) 104 dX14_ahead_137 (by decide) ?_
                              refine z_lvs [1, 0] rfl ?_
                              obtain ⟨hI, hm⟩ := h
                              exact ih104  (y30 + 1)  r36  hI (by omega)
                    refine z_lvs [1, 0] rfl ?_
                    obtain ⟨r41, h⟩ := h
                    exact j104 _  (y12 + 2)  r41  h (Nat.le_refl _)
              · have h := hF c
                refine z_aload_n hC (pc := 37) 0 dX14_ahead_37 rfl rfl ?_
                refine z_iload_n hC (pc := 38) 1 dX14_ahead_38 rfl rfl ?_
                refine z_iconst hC (pc := 39) (v := Int32.ofInt 1) dX14_ahead_39 (by decide) ?_
                refine y_iadd hC (pc := 40) (v := (y12 + 1)) dX14_ahead_40 rfl ?_
                obtain ⟨r42, h⟩ := h
                obtain ⟨p43, h⟩ := h
                refine y_callVi hC (pc := 41) (As := [iv (y12 + 1)]) (kX14_fc l G κ σ (y12 + 1) hwf r42 p43) dmX14_fc zf14 rOb_0 dX14_ahead_41 zw2993 rfl rfl (Nat.le_of_ble_eq_true rfl) (Nat.le_of_ble_eq_true rfl) (Nat.le_of_ble_eq_true rfl) (Nat.le_of_ble_eq_true rfl) (Nat.le_of_ble_eq_true rfl) (kk := fun x45 s44 hx45 Ws44 qs44 => ?_)
                obtain ⟨es44, qs44⟩ := qs44
                have es44 := es44.symm
                subst es44
                have h := h x45 hx45 qs44
                refine z_bipush hC (pc := 44) (v := Int32.ofInt 47) dX14_ahead_44 (by decide) ?_
                have j49 : ∀ (d49 : Nat), ∀ (y46 : Int), rng y46 → inv_X14_ahead_49 σ x1 (mu_X14_ahead_4 σ x1 σ y10 y11) σ y46 → (mu_X14_ahead_49 σ x1 σ y46) ≤ d49 → zS X G 4 (rW G κ σ) [(0, .ref (κ 0)), (2, iv y46)] 0 0 49 [] := by
                  intro d49
                  induction d49 with
                  | zero =>
                    intro y46 hy46 hI hmu
                    exact absurd hmu (by have := h_49m (mu_X14_ahead_4 σ x1 σ y10 y11)  y46  hy46  hI; omega)
                  | succ d49 ih49 =>
                    intro y46 hy46 hI hmu49
                    have h := h_49 (mu_X14_ahead_4 σ x1 σ y10 y11)  y46  hy46  hI
                    refine z_iload_n hC (pc := 49) 1 dX14_ahead_49 rfl rfl ?_
                    refine z_aload_n hC (pc := 50) 0 dX14_ahead_50 rfl rfl ?_
                    refine y_get hC (pc := 51) zf14 rOb_0 16 (v := iv (rF σ 0 16)) dX14_ahead_51 zw2483 (rv_i (Or.inl rfl) rfl) (kk := ?_)
                    have h := h (hwf.f _ _)
                    obtain ⟨hT, hF⟩ := h
                    refine y_icmp_ge hC (pc := 54) 74 hy46 (hwf.f _ _) dX14_ahead_54 (by decide) (fun c => ?_) (fun c => ?_)
                    · have h := hT c
                      refine z_iconst hC (pc := 74) (v := Int32.ofInt 1) dX14_ahead_74 (by decide) ?_
                      refine z_istore_n hC (pc := 75) (lv' := [(3, iv 1), (0, .ref (κ 0)), (2, iv y46)]) dX14_ahead_75 rfl (by decide) rfl ?_
                      refine z_goto hC (pc := 76) 4 dX14_ahead_76 (by decide) ?_
                      refine z_lvs [1, 2, 0] rfl ?_
                      obtain ⟨hI, hm⟩ := h
                      exact ih4  y46 1  hy46 (r_lit rfl)  hI (by omega)
                    · have h := hF c
                      refine z_aload_n hC (pc := 57) 0 dX14_ahead_57 rfl rfl ?_
                      obtain ⟨g47, h⟩ := h
                      refine y_get hC (pc := 58) zf14 rOb_0 15 (v := .ref (κ (rR σ 15))) dX14_ahead_58 zw2482 (rv_b rfl rfl g47) (kk := ?_)
                      refine z_iload_n hC (pc := 61) 1 dX14_ahead_61 rfl rfl ?_
                      obtain ⟨b48, h⟩ := h
                      refine y_bald hC (pc := 62) (rAr_f g47) dX14_ahead_62 b48 (v := (rA σ (rR σ 15) y46)) rfl (kk := ?_)
                      have h := h (hwf.a _ _)
                      refine z_bipush hC (pc := 63) (v := Int32.ofInt 10) dX14_ahead_63 (by decide) ?_
                      obtain ⟨hT, hF⟩ := h
                      refine y_icmp_eq hC (pc := 65) 74 (hwf.a _ _) (r_lit rfl) dX14_ahead_65 (by decide) (fun c => ?_) (fun c => ?_)
                      · have h := hT c
                        refine z_iconst hC (pc := 74) (v := Int32.ofInt 1) dX14_ahead_74 (by decide) ?_
                        refine z_istore_n hC (pc := 75) (lv' := [(3, iv 1), (0, .ref (κ 0)), (2, iv y46)]) dX14_ahead_75 rfl (by decide) rfl ?_
                        refine z_goto hC (pc := 76) 4 dX14_ahead_76 (by decide) ?_
                        refine z_lvs [1, 2, 0] rfl ?_
                        obtain ⟨hI, hm⟩ := h
                        exact ih4  y46 1  hy46 (r_lit rfl)  hI (by omega)
                      · have h := hF c
                        refine y_iinc hC (pc := 68) (v := (y46 + 1)) (lv' := [(2, iv (y46 + 1)), (0, .ref (κ 0))]) 1 dX14_ahead_68 rfl rfl (by decide) rfl ?_
                        refine z_goto hC (pc := 71) 49 dX14_ahead_71 (by decide) ?_
                        refine z_lvs [1, 0] rfl ?_
                        obtain ⟨r49, h⟩ := h
                        obtain ⟨hI, hm⟩ := h
                        exact ih49  (y46 + 1)  r49  hI (by omega)
                obtain ⟨hT, hF⟩ := h
                refine y_icmp_ne hC (pc := 46) 79 hx45 (r_lit rfl) dX14_ahead_46 (by decide) (fun c => ?_) (fun c => ?_)
                · have h := hT c
                  refine z_aload_n hC (pc := 79) 0 dX14_ahead_79 rfl rfl ?_
                  refine z_iload_n hC (pc := 80) 1 dX14_ahead_80 rfl rfl ?_
                  obtain ⟨p50, h⟩ := h
                  refine y_callVi hC (pc := 81) (As := [iv y12]) (kX14_fc l G κ σ y12 hwf hy12 p50) dmX14_fc zf14 rOb_0 dX14_ahead_81 zw2993 rfl rfl (Nat.le_of_ble_eq_true rfl) (Nat.le_of_ble_eq_true rfl) (Nat.le_of_ble_eq_true rfl) (Nat.le_of_ble_eq_true rfl) (Nat.le_of_ble_eq_true rfl) (kk := fun x52 s51 hx52 Ws51 qs51 => ?_)
                  obtain ⟨es51, qs51⟩ := qs51
                  have es51 := es51.symm
                  subst es51
                  have h := h x52 hx52 qs51
                  refine z_bipush hC (pc := 84) (v := Int32.ofInt 47) dX14_ahead_84 (by decide) ?_
                  obtain ⟨hT, hF⟩ := h
                  refine y_icmp_ne hC (pc := 86) 4 hx52 (r_lit rfl) dX14_ahead_86 (by decide) (fun c => ?_) (fun c => ?_)
                  · have h := hT c
                    obtain ⟨hI, hm⟩ := h
                    exact ih4  y12 y13  hy12 hy13  hI (by omega)
                  · have h := hF c
                    refine z_aload_n hC (pc := 89) 0 dX14_ahead_89 rfl rfl ?_
                    refine z_iload_n hC (pc := 90) 1 dX14_ahead_90 rfl rfl ?_
                    refine z_iconst hC (pc := 91) (v := Int32.ofInt 1) dX14_ahead_91 (by decide) ?_
                    refine y_iadd hC (pc := 92) (v := (y12 + 1)) dX14_ahead_92 rfl ?_
                    obtain ⟨p53, h⟩ := h
                    refine y_callVi hC (pc := 93) (As := [iv (y12 + 1)]) (kX14_fc l G κ σ (y12 + 1) hwf r42 p53) dmX14_fc zf14 rOb_0 dX14_ahead_93 zw2993 rfl rfl (Nat.le_of_ble_eq_true rfl) (Nat.le_of_ble_eq_true rfl) (Nat.le_of_ble_eq_true rfl) (Nat.le_of_ble_eq_true rfl) (Nat.le_of_ble_eq_true rfl) (kk := fun x55 s54 hx55 Ws54 qs54 => ?_)
                    obtain ⟨es54, qs54⟩ := qs54
                    have es54 := es54.symm
                    subst es54
                    have h := h x55 hx55 qs54
                    refine z_bipush hC (pc := 96) (v := Int32.ofInt 42) dX14_ahead_96 (by decide) ?_
                    obtain ⟨hT, hF⟩ := h
                    refine y_icmp_ne hC (pc := 98) 4 hx55 (r_lit rfl) dX14_ahead_98 (by decide) (fun c => ?_) (fun c => ?_)
                    · have h := hT c
                      obtain ⟨hI, hm⟩ := h
                      exact ih4  y12 y13  hy12 hy13  hI (by omega)
                    · have h := hF c
                      refine y_iinc hC (pc := 101) (v := (y12 + 2)) (lv' := [(2, iv (y12 + 2)), (0, .ref (κ 0)), (3, iv y13)]) 1 dX14_ahead_101 rfl rfl (by decide) rfl ?_
                      have j104 : ∀ (d104 : Nat), ∀ (y56 : Int), rng y56 → inv_X14_ahead_104 σ x1 (mu_X14_ahead_4 σ x1 σ y10 y11) σ y56 → (mu_X14_ahead_104 σ x1 σ y56) ≤ d104 → zS X G 4 (rW G κ σ) [(0, .ref (κ 0)), (2, iv y56)] 0 0 104 [] := by
                        intro d104
                        induction d104 with
                        | zero =>
                          intro y56 hy56 hI hmu
                          exact absurd hmu (by have := h_104m (mu_X14_ahead_4 σ x1 σ y10 y11)  y56  hy56  hI; omega)
                        | succ d104 ih104 =>
                          intro y56 hy56 hI hmu104
                          have h := h_104 (mu_X14_ahead_4 σ x1 σ y10 y11)  y56  hy56  hI
                          refine z_iload_n hC (pc := 104) 1 dX14_ahead_104 rfl rfl ?_
                          refine z_aload_n hC (pc := 105) 0 dX14_ahead_105 rfl rfl ?_
                          refine y_get hC (pc := 106) zf14 rOb_0 16 (v := iv (rF σ 0 16)) dX14_ahead_106 zw2483 (rv_i (Or.inl rfl) rfl) (kk := ?_)
                          have h := h (hwf.f _ _)
                          obtain ⟨hT, hF⟩ := h
                          refine y_icmp_ge hC (pc := 109) 140 hy56 (hwf.f _ _) dX14_ahead_109 (by decide) (fun c => ?_) (fun c => ?_)
                          · have h := hT c
                            refine z_iload_n hC (pc := 140) 1 dX14_ahead_140 rfl rfl ?_
                            refine z_aload_n hC (pc := 141) 0 dX14_ahead_141 rfl rfl ?_
                            refine y_get hC (pc := 142) zf14 rOb_0 16 (v := iv (rF σ 0 16)) dX14_ahead_142 zw2483 (rv_i (Or.inl rfl) rfl) (kk := ?_)
                            obtain ⟨hT, hF⟩ := h
                            refine y_icmp_lt hC (pc := 145) 150 hy56 (hwf.f _ _) dX14_ahead_145 (by decide) (fun c => ?_) (fun c => ?_)
                            · have h := hT c
                              refine y_iinc hC (pc := 150) (v := (y56 + 2)) (lv' := [(2, iv (y56 + 2)), (0, .ref (κ 0))]) 1 dX14_ahead_150 rfl rfl (by decide) rfl ?_
                              refine z_iconst hC (pc := 153) (v := Int32.ofInt 1) dX14_ahead_153 (by decide) ?_
                              refine z_istore_n hC (pc := 154) (lv' := [(3, iv 1), (2, iv (y56 + 2)), (0, .ref (κ 0))]) dX14_ahead_154 rfl (by decide) rfl ?_
                              refine z_goto hC (pc := 155) 4 dX14_ahead_155 (by decide) ?_
                              refine z_lvs [2, 1, 0] rfl ?_
                              obtain ⟨r57, h⟩ := h
                              obtain ⟨hI, hm⟩ := h
                              exact ih4  (y56 + 2) 1  r57 (r_lit rfl)  hI (by omega)
                            · have h := hF c
                              refine z_iconst hC (pc := 148) (v := Int32.ofInt (-1)) dX14_ahead_148 (by decide) ?_
                              exact y_reti hR dX14_ahead_149 rfl (r_lit rfl) hwf (Nat.le_of_ble_eq_true rfl) (Nat.le_of_ble_eq_true rfl) ⟨rfl, h⟩
                          · have h := hF c
                            refine z_aload_n hC (pc := 112) 0 dX14_ahead_112 rfl rfl ?_
                            refine z_iload_n hC (pc := 113) 1 dX14_ahead_113 rfl rfl ?_
                            obtain ⟨p58, h⟩ := h
                            refine y_callVi hC (pc := 114) (As := [iv y56]) (kX14_fc l G κ σ y56 hwf hy56 p58) dmX14_fc zf14 rOb_0 dX14_ahead_114 zw2993 rfl rfl (Nat.le_of_ble_eq_true rfl) (Nat.le_of_ble_eq_true rfl) (Nat.le_of_ble_eq_true rfl) (Nat.le_of_ble_eq_true rfl) (Nat.le_of_ble_eq_true rfl) (kk := fun x60 s59 hx60 Ws59 qs59 => ?_)
                            obtain ⟨es59, qs59⟩ := qs59
                            have es59 := es59.symm
                            subst es59
                            have h := h x60 hx60 qs59
                            refine z_bipush hC (pc := 117) (v := Int32.ofInt 42) dX14_ahead_117 (by decide) ?_
                            obtain ⟨hT, hF⟩ := h
                            refine y_icmp_ne hC (pc := 119) 134 hx60 (r_lit rfl) dX14_ahead_119 (by decide) (fun c => ?_) (fun c => ?_)
                            · have h := hT c
                              refine y_iinc hC (pc := 134) (v := (y56 + 1)) (lv' := [(2, iv (y56 + 1)), (0, .ref (κ 0))]) 1 dX14_ahead_134 rfl rfl (by decide) rfl ?_
                              refine z_goto hC (pc := 137) 104 dX14_ahead_137 (by decide) ?_
                              refine z_lvs [1, 0] rfl ?_
                              obtain ⟨r61, h⟩ := h
                              obtain ⟨hI, hm⟩ := h
                              exact ih104  (y56 + 1)  r61  hI (by omega)
                            · have h := hF c
                              refine z_aload_n hC (pc := 122) 0 dX14_ahead_122 rfl rfl ?_
                              refine z_iload_n hC (pc := 123) 1 dX14_ahead_123 rfl rfl ?_
                              refine z_iconst hC (pc := 124) (v := Int32.ofInt 1) dX14_ahead_124 (by decide) ?_
                              refine y_iadd hC (pc := 125) (v := (y56 + 1)) dX14_ahead_125 rfl ?_
                              obtain ⟨r62, h⟩ := h
                              obtain ⟨p63, h⟩ := h
                              refine y_callVi hC (pc := 126) (As := [iv (y56 + 1)]) (kX14_fc l G κ σ (y56 + 1) hwf r62 p63) dmX14_fc zf14 rOb_0 dX14_ahead_126 zw2993 rfl rfl (Nat.le_of_ble_eq_true rfl) (Nat.le_of_ble_eq_true rfl) (Nat.le_of_ble_eq_true rfl) (Nat.le_of_ble_eq_true rfl) (Nat.le_of_ble_eq_true rfl) (kk := fun x65 s64 hx65 Ws64 qs64 => ?_)
                              obtain ⟨es64, qs64⟩ := qs64
                              have es64 := es64.symm
                              subst es64
                              have h := h x65 hx65 qs64
                              refine z_bipush hC (pc := 129) (v := Int32.ofInt 47) dX14_ahead_129 (by decide) ?_
                              obtain ⟨hT, hF⟩ := h
                              refine y_icmp_eq hC (pc := 131) 140 hx65 (r_lit rfl) dX14_ahead_131 (by decide) (fun c => ?_) (fun c => ?_)
                              · have h := hT c
                                refine z_iload_n hC (pc := 140) 1 dX14_ahead_140 rfl rfl ?_
                                refine z_aload_n hC (pc := 141) 0 dX14_ahead_141 rfl rfl ?_
                                refine y_get hC (pc := 142) zf14 rOb_0 16 (v := iv (rF σ 0 16)) dX14_ahead_142 zw2483 (rv_i (Or.inl rfl) rfl) (kk := ?_)
                                obtain ⟨hT, hF⟩ := h
                                refine y_icmp_lt hC (pc := 145) 150 hy56 (hwf.f _ _) dX14_ahead_145 (by decide) (fun c => ?_) (fun c => ?_)
                                · have h := hT c
                                  refine y_iinc hC (pc := 150) (v := (y56 + 2)) (lv' := [(2, iv (y56 + 2)), (0, .ref (κ 0))]) 1 dX14_ahead_150 rfl rfl (by decide) rfl ?_
                                  refine z_iconst hC (pc := 153) (v := Int32.ofInt 1) dX14_ahead_153 (by decide) ?_
                                  refine z_istore_n hC (pc := 154) (lv' := [(3, iv 1), (2, iv (y56 + 2)), (0, .ref (κ 0))]) dX14_ahead_154 rfl (by decide) rfl ?_
                                  refine z_goto hC (pc := 155) 4 dX14_ahead_155 (by decide) ?_
                                  refine z_lvs [2, 1, 0] rfl ?_
                                  obtain ⟨r66, h⟩ := h
                                  obtain ⟨hI, hm⟩ := h
                                  exact ih4  (y56 + 2) 1  r66 (r_lit rfl)  hI (by omega)
                                · have h := hF c
                                  refine z_iconst hC (pc := 148) (v := Int32.ofInt (-1)) dX14_ahead_148 (by decide) ?_
                                  exact y_reti hR dX14_ahead_149 rfl (r_lit rfl) hwf (Nat.le_of_ble_eq_true rfl) (Nat.le_of_ble_eq_true rfl) ⟨rfl, h⟩
                              · have h := hF c
                                refine y_iinc hC (pc := 134) (v := (y56 + 1)) (lv' := [(2, iv (y56 + 1)), (0, .ref (κ 0))]) 1 dX14_ahead_134 rfl rfl (by decide) rfl ?_
                                refine z_goto hC (pc := 137) 104 dX14_ahead_137 (by decide) ?_
                                refine z_lvs [1, 0] rfl ?_
                                obtain ⟨hI, hm⟩ := h
                                exact ih104  (y56 + 1)  r62  hI (by omega)
                      refine z_lvs [1, 0] rfl ?_
                      obtain ⟨r67, h⟩ := h
                      exact j104 _  (y12 + 2)  r67  h (Nat.le_refl _)
                · have h := hF c
                  refine z_lvs [0, 1] rfl ?_
                  exact j49 _  y12  hy12  h (Nat.le_refl _)
            · have h := hF c
              refine y_iinc hC (pc := 21) (v := (y12 + 1)) (lv' := [(2, iv (y12 + 1)), (0, .ref (κ 0)), (3, iv y13)]) 1 dX14_ahead_21 rfl rfl (by decide) rfl ?_
              refine z_goto hC (pc := 24) 10 dX14_ahead_24 (by decide) ?_
              refine z_lvs [1, 0, 2] rfl ?_
              obtain ⟨r68, h⟩ := h
              obtain ⟨hI, hm⟩ := h
              exact ih10  (y12 + 1) y13  r68 hy13  hI (by omega)
        refine z_lvs [1, 2, 0] rfl ?_
        exact j10 _  y10 0  hy10 (r_lit rfl)  h (Nat.le_refl _)
  refine z_lvs [2, 1, 0] rfl ?_
  exact j4 _  x1 1  hx1 (r_lit rfl)  h (Nat.le_refl _)
theorem kX14_ahead (l : Launch) (G : zG) (κ : Nat → Nat) (σ : rS) (x1 : Int) (hwf : rWF σ) (hx1 : rng x1) (hp : pre_X14_ahead σ x1) : rMi l G κ yX14_ahead cX14_ahead 4 .int 2 21 [.ref (κ 0), iv x1] σ (fun x s => s = σ ∧ post_X14_ahead σ x1 x) := wX14_ahead l G κ σ x1 hwf hx1 (post_X14_ahead σ x1) (vX14_ahead σ x1 hwf hx1 hp) (vX14_ahead_104 σ x1 hwf hx1 hp) (vX14_ahead_104m σ x1 hwf hx1 hp) (vX14_ahead_49 σ x1 hwf hx1 hp) (vX14_ahead_49m σ x1 hwf hx1 hp) (vX14_ahead_10 σ x1 hwf hx1 hp) (vX14_ahead_10m σ x1 hwf hx1 hp) (vX14_ahead_4 σ x1 hwf hx1 hp) (vX14_ahead_4m σ x1 hwf hx1 hp)
def pre_X14_skip (σ : rS)  : Prop := 0 ≤ (rF σ 0 17) ∧ 0 ≤ (rF σ 0 16) ∧ (rF σ 0 16) ≤ 4000 ∧ rfk (rR σ 15) ∧ (rF σ 0 17) ≤ (rF σ 0 16)
def post_X14_skip (σ : rS)  (σ' : rS) : Prop := (rF σ 0 17) ≤ (rF σ' 0 17) ∧ (rF σ' 0 17) ≤ (rF σ 0 16) ∧ ((rF σ 0 10) ≠ 0 → (rF σ' 0 10) = (rF σ 0 10))
def VC_X14_skip (σ : rS) (Q : rS → Prop) : Prop := (rng (rF σ 0 10) → (((rF σ 0 10) = 0 → (rng (rF σ 0 17) → pre_X14_ahead σ (rF σ 0 17) ∧ (∀ (x12 : Int), rng x12 → post_X14_ahead σ (rF σ 0 17) x12 → ((0 ≤ x12 → Q (sF σ 0 17 x12)) ∧ (¬ 0 ≤ x12 → (rng (rF σ 0 16) → pre_X14_bad σ 1 (rF σ 0 16) ∧ (∀ (s15 : rS), rWF s15 → rR s15 15 = rR σ 15 → rF s15 0 16 = rF σ 0 16 → rF s15 0 17 = rF σ 0 17 → post_X14_bad σ 1 (rF σ 0 16) s15 → Q s15))))))) ∧ (¬ (rF σ 0 10) = 0 → Q σ)))
set_option maxHeartbeats 400000 in
theorem vX14_skip (σ : rS) (hwf : rWF σ) (hp : pre_X14_skip σ ) : VC_X14_skip σ (post_X14_skip σ ) := by
  simp only [VC_X14_skip, pre_X14_skip, post_X14_skip, pre_X14_ahead, pre_X14_bad, post_X14_ahead, post_X14_bad, rng, rfk, rNMp, rF_sF, rF_sA, rF_sL, rF_sR, rA_sA, rA_sF, rA_sL, rA_sR, rR_sF, rR_sA, rR_sL, rR_sR, reduceIte, and_true, true_and, and_false, false_and, and_self] at *
  (repeat' (first | with_reducible intro _ | with_reducible apply And.intro))
  all_goals (first | assumption | omega | grind (splits := 20) [rNM_sF0])
theorem wX14_skip (l : Launch) (G : zG) (κ : Nat → Nat) (σ : rS) (hwf : rWF σ) (Q : rS → Prop) (h : VC_X14_skip σ Q) : rMv l G κ yX14_skip cX14_skip 2 3 44 [.ref (κ 0)] σ (fun s => rKeep 0x21c00 0 0 0 0 σ s ∧ Q s) := by
  refine zMv.intro (by decide +kernel) (Nat.le_of_ble_eq_true rfl) (fun X hC hR => ?_)
  refine z_aload_n hC (pc := 0) 0 dX14_skip_0 rfl rfl ?_
  refine y_get hC (pc := 1) zf14 rOb_0 10 (v := iv (rF σ 0 10)) dX14_skip_1 zw2478 (rv_i (Or.inl rfl) rfl) (kk := ?_)
  have h := h (hwf.f _ _)
  obtain ⟨hT, hF⟩ := h
  refine y_if_eq hC (pc := 4) 8 (hwf.f _ _) dX14_skip_4 (by decide) (fun c => ?_) (fun c => ?_)
  · have h := hT c
    refine z_aload_n hC (pc := 8) 0 dX14_skip_8 rfl rfl ?_
    refine z_aload_n hC (pc := 9) 0 dX14_skip_9 rfl rfl ?_
    refine y_get hC (pc := 10) zf14 rOb_0 17 (v := iv (rF σ 0 17)) dX14_skip_10 zw2484 (rv_i (Or.inl rfl) rfl) (kk := ?_)
    have h := h (hwf.f _ _)
    obtain ⟨p10, h⟩ := h
    refine y_callVi hC (pc := 13) (As := [iv (rF σ 0 17)]) (kX14_ahead l G κ σ (rF σ 0 17) hwf (hwf.f _ _) p10) dmX14_ahead zf14 rOb_0 dX14_skip_13 zw2989 rfl rfl (Nat.le_of_ble_eq_true rfl) (Nat.le_of_ble_eq_true rfl) (Nat.le_of_ble_eq_true rfl) (Nat.le_of_ble_eq_true rfl) (Nat.le_of_ble_eq_true rfl) (kk := fun x12 s11 hx12 Ws11 qs11 => ?_)
    obtain ⟨es11, qs11⟩ := qs11
    have es11 := es11.symm
    subst es11
    have h := h x12 hx12 qs11
    refine z_istore_n hC (pc := 16) (lv' := [(1, iv x12), (0, .ref (κ 0))]) dX14_skip_16 rfl (by decide) rfl ?_
    refine z_iload_n hC (pc := 17) 0 dX14_skip_17 rfl rfl ?_
    obtain ⟨hT, hF⟩ := h
    refine y_if_ge hC (pc := 18) 31 hx12 dX14_skip_18 (by decide) (fun c => ?_) (fun c => ?_)
    · have h := hT c
      refine z_aload_n hC (pc := 31) 1 dX14_skip_31 rfl rfl ?_
      refine z_iload_n hC (pc := 32) 0 dX14_skip_32 rfl rfl ?_
      refine y_putI hC (pc := 33) zf14 rOb_0 17 (x := x12) dX14_skip_33 zw2484 (Or.inl rfl) rfl rfl (kk := ?_)
      have W13 := hwf.sF (q := 0) (f := 17) (x := x12) hx12
      exact y_retv hR dX14_skip_36 W13 (Nat.le_of_ble_eq_true rfl) (Nat.le_of_ble_eq_true rfl) ⟨(rKeep.tr rKeep.rf (rKeep.sF0 (f := 17)) rfl rfl rfl rfl rfl), h⟩
    · have h := hF c
      refine z_aload_n hC (pc := 21) 1 dX14_skip_21 rfl rfl ?_
      refine z_iconst hC (pc := 22) (v := Int32.ofInt 1) dX14_skip_22 (by decide) ?_
      refine z_aload_n hC (pc := 23) 1 dX14_skip_23 rfl rfl ?_
      refine y_get hC (pc := 24) zf14 rOb_0 16 (v := iv (rF σ 0 16)) dX14_skip_24 zw2483 (rv_i (Or.inl rfl) rfl) (kk := ?_)
      have h := h (hwf.f _ _)
      obtain ⟨p14, h⟩ := h
      refine y_callVv hC (pc := 27) (As := [iv 1, iv (rF σ 0 16)]) (kX14_bad l G κ σ 1 (rF σ 0 16) hwf (r_lit rfl) (hwf.f _ _) p14) dmX14_bad zf14 rOb_0 dX14_skip_27 zw3000 rfl rfl (Nat.le_of_ble_eq_true rfl) (Nat.le_of_ble_eq_true rfl) (Nat.le_of_ble_eq_true rfl) (Nat.le_of_ble_eq_true rfl) (Nat.le_of_ble_eq_true rfl) (kk := fun s15 Ws15 qs15 => ?_)
      have h := h s15 Ws15 (qs15.1.R rfl) (qs15.1.F rfl) (qs15.1.F rfl) qs15.2
      exact y_retv hR dX14_skip_30 Ws15 (Nat.le_of_ble_eq_true rfl) (Nat.le_of_ble_eq_true rfl) ⟨(rKeep.tr rKeep.rf qs15.1 rfl rfl rfl rfl rfl), h⟩
  · have h := hF c
    exact y_retv hR dX14_skip_7 hwf (Nat.le_of_ble_eq_true rfl) (Nat.le_of_ble_eq_true rfl) ⟨rKeep.rf, h⟩
theorem kX14_skip (l : Launch) (G : zG) (κ : Nat → Nat) (σ : rS) (hwf : rWF σ) (hp : pre_X14_skip σ ) : rMv l G κ yX14_skip cX14_skip 2 3 44 [.ref (κ 0)] σ (fun s => rKeep 0x21c00 0 0 0 0 σ s ∧ post_X14_skip σ s) := wX14_skip l G κ σ hwf (post_X14_skip σ ) (vX14_skip σ hwf hp) 
