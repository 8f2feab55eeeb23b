def PNp (σ : rS) : Prop := rgk (rR σ 7) ∧ (∀ j, 0 ≤ j → j < rF σ (rR σ 7) 32 → 0 < rA σ (1000 * (rR σ 7 + 1) + 31) j ∧ rA σ (1000 * (rR σ 7 + 1) + 31) j < rF σ (rR σ 7) 7 ∧ rA σ (1000 * (rR σ 7 + 1) + 0) (rA σ (1000 * (rR σ 7 + 1) + 31) j) = 6)
theorem PNp.keep {a b c d e : Nat} {s t : rS} (h : rKeep a b c d e s t) (hG32 : b.testBit 32 = false) (hG7 : b.testBit 7 = false) (hAG31 : d.testBit 31 = false) (hAG0 : d.testBit 0 = false) (hR7 : e.testBit 7 = false) (hs : PNp s) : PNp t := by
  have ehR7 := h.R (f := 7) hR7
  have hk : rgk (rR s 7) := hs.1
  have ehG32 := h.FG (f := 32) hk hG32
  have ehG7 := h.FG (f := 7) hk hG7
  have ehAG31 : ∀ i, rA t (1000 * (rR s 7 + 1) + 31) i = rA s (1000 * (rR s 7 + 1) + 31) i := fun i => h.AG (f := 31) hk (by decide) hAG31
  have ehAG0 : ∀ i, rA t (1000 * (rR s 7 + 1) + 0) i = rA s (1000 * (rR s 7 + 1) + 0) i := fun i => h.AG (f := 0) hk (by decide) hAG0
  unfold PNp at *
  (try simp only [Nat.reduceAdd] at *)
  simp only [ehR7, ehG32, ehG7, ehAG31, ehAG0] at *
  exact hs
theorem PNp_sL {σ : rS} {p : Nat} {i : Int} {x : Int64} : PNp (sL σ p i x) = PNp σ := rfl
theorem rNMp_sF {σ : rS} {f : Nat} {x : Int} : rNMp (sF σ 0 f x) = rNMp σ := by
  have e : ∀ g, rgk (rR σ 7) → rF (sF σ 0 f x) (rR σ 7) g = rF σ (rR σ 7) g := fun g hk => F_sF_nq (rk_n0 hk)
  unfold rNMp rNM
  simp only [rR_sF, rA_sF]
  refine propext ⟨fun h => ⟨h.1, ?_⟩, fun h => ⟨h.1, ?_⟩⟩
  · have h2 := h.2; simp only [e _ h.1] at h2; exact h2
  · simp only [e _ h.1]; exact h.2
theorem rNMp_A {σ : rS} {p : Nat} {i x : Int} (hp : p < 2000 ∨ p % 1000 ≠ 10 ∧ p % 1000 ≠ 11) : rNMp (sA σ p i x) = rNMp σ := by
  have e : rgk (rR σ 7) → 1000 * (rR σ 7 + 1) + 10 ≠ p ∧ 1000 * (rR σ 7 + 1) + 11 ≠ p := by rintro (h | h | h) <;> rw [h] <;> omega
  unfold rNMp rNM
  simp only [rR_sA, rF_sA]
  refine propext ⟨fun h => ⟨h.1, ?_⟩, fun h => ⟨h.1, ?_⟩⟩
  · have h2 := h.2; simp only [A_sA_ne (e h.1).1, A_sA_ne (e h.1).2] at h2; exact h2
  · simp only [A_sA_ne (e h.1).1, A_sA_ne (e h.1).2]; exact h.2
theorem rNMp_sT {σ : rS} {k f : Nat} {i x : Int} (hf : 0 < f ∧ f < 6) : rNMp (sT σ k f i x) = rNMp σ := rNMp_A (by omega)
theorem rNMp_sT1 {σ : rS} {k : Nat} {i x : Int} : rNMp (sT σ k 1 i x) = rNMp σ := rNMp_sT (by decide)
theorem rNMp_sT2 {σ : rS} {k : Nat} {i x : Int} : rNMp (sT σ k 2 i x) = rNMp σ := rNMp_sT (by decide)
theorem rNMp_sT3 {σ : rS} {k : Nat} {i x : Int} : rNMp (sT σ k 3 i x) = rNMp σ := rNMp_sT (by decide)
theorem rNMp_sT4 {σ : rS} {k : Nat} {i x : Int} : rNMp (sT σ k 4 i x) = rNMp σ := rNMp_sT (by decide)
theorem rNMp_sT5 {σ : rS} {k : Nat} {i x : Int} : rNMp (sT σ k 5 i x) = rNMp σ := rNMp_sT (by decide)
theorem rNMp_a1 {σ : rS} {i x : Int} : rNMp (sA σ 1001 i x) = rNMp σ := rNMp_A (Or.inl (by decide))
theorem rNMp_a2 {σ : rS} {i x : Int} : rNMp (sA σ 1002 i x) = rNMp σ := rNMp_A (Or.inl (by decide))
theorem rNMp_a5 {σ : rS} {i x : Int} : rNMp (sA σ 1005 i x) = rNMp σ := rNMp_A (Or.inl (by decide))
theorem rNMp_a20 {σ : rS} {i x : Int} : rNMp (sA σ 1020 i x) = rNMp σ := rNMp_A (Or.inl (by decide))
theorem rNMp_a26 {σ : rS} {i x : Int} : rNMp (sA σ 1026 i x) = rNMp σ := rNMp_A (Or.inl (by decide))
theorem rNMp_a27 {σ : rS} {i x : Int} : rNMp (sA σ 1027 i x) = rNMp σ := rNMp_A (Or.inl (by decide))
theorem rNMp_a34 {σ : rS} {i x : Int} : rNMp (sA σ 1034 i x) = rNMp σ := rNMp_A (Or.inl (by decide))
theorem rNMp_a35 {σ : rS} {i x : Int} : rNMp (sA σ 1035 i x) = rNMp σ := rNMp_A (Or.inl (by decide))
theorem rNMp_a36 {σ : rS} {i x : Int} : rNMp (sA σ 1036 i x) = rNMp σ := rNMp_A (Or.inl (by decide))
theorem rNMp_a37 {σ : rS} {i x : Int} : rNMp (sA σ 1037 i x) = rNMp σ := rNMp_A (Or.inl (by decide))
theorem rNMp_a40 {σ : rS} {i x : Int} : rNMp (sA σ 1040 i x) = rNMp σ := rNMp_A (Or.inl (by decide))
theorem rNMp_a46 {σ : rS} {i x : Int} : rNMp (sA σ 1046 i x) = rNMp σ := rNMp_A (Or.inl (by decide))
theorem rNMp_a47 {σ : rS} {i x : Int} : rNMp (sA σ 1047 i x) = rNMp σ := rNMp_A (Or.inl (by decide))
theorem rNMp_a48 {σ : rS} {i x : Int} : rNMp (sA σ 1048 i x) = rNMp σ := rNMp_A (Or.inl (by decide))
theorem rNMp_a49 {σ : rS} {i x : Int} : rNMp (sA σ 1049 i x) = rNMp σ := rNMp_A (Or.inl (by decide))
theorem rNMp_a50 {σ : rS} {i x : Int} : rNMp (sA σ 1050 i x) = rNMp σ := rNMp_A (Or.inl (by decide))
theorem rNMp_a51 {σ : rS} {i x : Int} : rNMp (sA σ 1051 i x) = rNMp σ := rNMp_A (Or.inl (by decide))
theorem rNMp_a52 {σ : rS} {i x : Int} : rNMp (sA σ 1052 i x) = rNMp σ := rNMp_A (Or.inl (by decide))
theorem rNMp_a53 {σ : rS} {i x : Int} : rNMp (sA σ 1053 i x) = rNMp σ := rNMp_A (Or.inl (by decide))
theorem rNMp_a54 {σ : rS} {i x : Int} : rNMp (sA σ 1054 i x) = rNMp σ := rNMp_A (Or.inl (by decide))
theorem rNMp_a55 {σ : rS} {i x : Int} : rNMp (sA σ 1055 i x) = rNMp σ := rNMp_A (Or.inl (by decide))
theorem rNMp_a56 {σ : rS} {i x : Int} : rNMp (sA σ 1056 i x) = rNMp σ := rNMp_A (Or.inl (by decide))
theorem rNMp_a57 {σ : rS} {i x : Int} : rNMp (sA σ 1057 i x) = rNMp σ := rNMp_A (Or.inl (by decide))
theorem rNMp_a58 {σ : rS} {i x : Int} : rNMp (sA σ 1058 i x) = rNMp σ := rNMp_A (Or.inl (by decide))
theorem rNMp_a59 {σ : rS} {i x : Int} : rNMp (sA σ 1059 i x) = rNMp σ := rNMp_A (Or.inl (by decide))
theorem rNMp_a61 {σ : rS} {i x : Int} : rNMp (sA σ 1061 i x) = rNMp σ := rNMp_A (Or.inl (by decide))
theorem rNMp_a62 {σ : rS} {i x : Int} : rNMp (sA σ 1062 i x) = rNMp σ := rNMp_A (Or.inl (by decide))
theorem rNMp_a63 {σ : rS} {i x : Int} : rNMp (sA σ 1063 i x) = rNMp σ := rNMp_A (Or.inl (by decide))
theorem rNMp_a64 {σ : rS} {i x : Int} : rNMp (sA σ 1064 i x) = rNMp σ := rNMp_A (Or.inl (by decide))
theorem rNMp_a69 {σ : rS} {i x : Int} : rNMp (sA σ 1069 i x) = rNMp σ := rNMp_A (Or.inl (by decide))
theorem rNMp_a75 {σ : rS} {i x : Int} : rNMp (sA σ 1075 i x) = rNMp σ := rNMp_A (Or.inl (by decide))
theorem rNMp_a76 {σ : rS} {i x : Int} : rNMp (sA σ 1076 i x) = rNMp σ := rNMp_A (Or.inl (by decide))
theorem rNMp_a77 {σ : rS} {i x : Int} : rNMp (sA σ 1077 i x) = rNMp σ := rNMp_A (Or.inl (by decide))
theorem rNMp_a78 {σ : rS} {i x : Int} : rNMp (sA σ 1078 i x) = rNMp σ := rNMp_A (Or.inl (by decide))
theorem rNMp_a79 {σ : rS} {i x : Int} : rNMp (sA σ 1079 i x) = rNMp σ := rNMp_A (Or.inl (by decide))
theorem rNMp_a84 {σ : rS} {i x : Int} : rNMp (sA σ 1084 i x) = rNMp σ := rNMp_A (Or.inl (by decide))
theorem rNMp_a85 {σ : rS} {i x : Int} : rNMp (sA σ 1085 i x) = rNMp σ := rNMp_A (Or.inl (by decide))
theorem rNMp_a86 {σ : rS} {i x : Int} : rNMp (sA σ 1086 i x) = rNMp σ := rNMp_A (Or.inl (by decide))
theorem rNMp_a87 {σ : rS} {i x : Int} : rNMp (sA σ 1087 i x) = rNMp σ := rNMp_A (Or.inl (by decide))
theorem rNMp_a89 {σ : rS} {i x : Int} : rNMp (sA σ 1089 i x) = rNMp σ := rNMp_A (Or.inl (by decide))
theorem rNMp_a90 {σ : rS} {i x : Int} : rNMp (sA σ 1090 i x) = rNMp σ := rNMp_A (Or.inl (by decide))
theorem rNMp_a91 {σ : rS} {i x : Int} : rNMp (sA σ 1091 i x) = rNMp σ := rNMp_A (Or.inl (by decide))
theorem rNMp_a93 {σ : rS} {i x : Int} : rNMp (sA σ 1093 i x) = rNMp σ := rNMp_A (Or.inl (by decide))
theorem rNMp_a102 {σ : rS} {i x : Int} : rNMp (sA σ 1102 i x) = rNMp σ := rNMp_A (Or.inl (by decide))
theorem rNMp_a105 {σ : rS} {i x : Int} : rNMp (sA σ 1105 i x) = rNMp σ := rNMp_A (Or.inl (by decide))
theorem rNMp_a106 {σ : rS} {i x : Int} : rNMp (sA σ 1106 i x) = rNMp σ := rNMp_A (Or.inl (by decide))
theorem rNMp_a107 {σ : rS} {i x : Int} : rNMp (sA σ 1107 i x) = rNMp σ := rNMp_A (Or.inl (by decide))
theorem rNMp_a108 {σ : rS} {i x : Int} : rNMp (sA σ 1108 i x) = rNMp σ := rNMp_A (Or.inl (by decide))
theorem rNMp_a109 {σ : rS} {i x : Int} : rNMp (sA σ 1109 i x) = rNMp σ := rNMp_A (Or.inl (by decide))
theorem rNMp_a110 {σ : rS} {i x : Int} : rNMp (sA σ 1110 i x) = rNMp σ := rNMp_A (Or.inl (by decide))
theorem rNMp_a111 {σ : rS} {i x : Int} : rNMp (sA σ 1111 i x) = rNMp σ := rNMp_A (Or.inl (by decide))
theorem rNMp_a114 {σ : rS} {i x : Int} : rNMp (sA σ 1114 i x) = rNMp σ := rNMp_A (Or.inl (by decide))
theorem rNMp_a115 {σ : rS} {i x : Int} : rNMp (sA σ 1115 i x) = rNMp σ := rNMp_A (Or.inl (by decide))
theorem rNMp_a116 {σ : rS} {i x : Int} : rNMp (sA σ 1116 i x) = rNMp σ := rNMp_A (Or.inl (by decide))
theorem rNMp_a117 {σ : rS} {i x : Int} : rNMp (sA σ 1117 i x) = rNMp σ := rNMp_A (Or.inl (by decide))
theorem rNMp_a120 {σ : rS} {i x : Int} : rNMp (sA σ 1120 i x) = rNMp σ := rNMp_A (Or.inl (by decide))
theorem rNMp_a121 {σ : rS} {i x : Int} : rNMp (sA σ 1121 i x) = rNMp σ := rNMp_A (Or.inl (by decide))
theorem rNMp_a124 {σ : rS} {i x : Int} : rNMp (sA σ 1124 i x) = rNMp σ := rNMp_A (Or.inl (by decide))
theorem rNMp_a125 {σ : rS} {i x : Int} : rNMp (sA σ 1125 i x) = rNMp σ := rNMp_A (Or.inl (by decide))
theorem rNMp_a126 {σ : rS} {i x : Int} : rNMp (sA σ 1126 i x) = rNMp σ := rNMp_A (Or.inl (by decide))
theorem rNMp_a127 {σ : rS} {i x : Int} : rNMp (sA σ 1127 i x) = rNMp σ := rNMp_A (Or.inl (by decide))
theorem rNMp_a128 {σ : rS} {i x : Int} : rNMp (sA σ 1128 i x) = rNMp σ := rNMp_A (Or.inl (by decide))
theorem rNMp_a129 {σ : rS} {i x : Int} : rNMp (sA σ 1129 i x) = rNMp σ := rNMp_A (Or.inl (by decide))
theorem rNMp_a136 {σ : rS} {i x : Int} : rNMp (sA σ 1136 i x) = rNMp σ := rNMp_A (Or.inl (by decide))
theorem rNMp_a138 {σ : rS} {i x : Int} : rNMp (sA σ 1138 i x) = rNMp σ := rNMp_A (Or.inl (by decide))
theorem PNp_sF {σ : rS} {f : Nat} {x : Int} : PNp (sF σ 0 f x) = PNp σ := by
  have e : ∀ g, rgk (rR σ 7) → rF (sF σ 0 f x) (rR σ 7) g = rF σ (rR σ 7) g := fun g hk => F_sF_nq (rk_n0 hk)
  unfold PNp
  simp only [rR_sF, rA_sF]
  refine propext ⟨fun h => ⟨h.1, ?_⟩, fun h => ⟨h.1, ?_⟩⟩
  · have h2 := h.2; simp only [e _ h.1] at h2; exact h2
  · simp only [e _ h.1]; exact h.2
theorem PNp_A {σ : rS} {p : Nat} {i x : Int} (hp : p < 2000 ∨ p % 1000 ≠ 31 ∧ p % 1000 ≠ 0) : PNp (sA σ p i x) = PNp σ := by
  have e : rgk (rR σ 7) → 1000 * (rR σ 7 + 1) + 31 ≠ p ∧ 1000 * (rR σ 7 + 1) + 0 ≠ p := by rintro (h | h | h) <;> rw [h] <;> omega
  unfold PNp
  simp only [rR_sA, rF_sA]
  refine propext ⟨fun h => ⟨h.1, ?_⟩, fun h => ⟨h.1, ?_⟩⟩
  · have h2 := h.2; simp only [A_sA_ne (e h.1).1, A_sA_ne (e h.1).2] at h2; exact h2
  · simp only [A_sA_ne (e h.1).1, A_sA_ne (e h.1).2]; exact h.2
theorem PNp_sT {σ : rS} {k f : Nat} {i x : Int} (hf : 0 < f ∧ f < 6) : PNp (sT σ k f i x) = PNp σ := PNp_A (by omega)
theorem PNp_sT1 {σ : rS} {k : Nat} {i x : Int} : PNp (sT σ k 1 i x) = PNp σ := PNp_sT (by decide)
theorem PNp_sT2 {σ : rS} {k : Nat} {i x : Int} : PNp (sT σ k 2 i x) = PNp σ := PNp_sT (by decide)
theorem PNp_sT3 {σ : rS} {k : Nat} {i x : Int} : PNp (sT σ k 3 i x) = PNp σ := PNp_sT (by decide)
theorem PNp_sT4 {σ : rS} {k : Nat} {i x : Int} : PNp (sT σ k 4 i x) = PNp σ := PNp_sT (by decide)
theorem PNp_sT5 {σ : rS} {k : Nat} {i x : Int} : PNp (sT σ k 5 i x) = PNp σ := PNp_sT (by decide)
theorem PNp_a1 {σ : rS} {i x : Int} : PNp (sA σ 1001 i x) = PNp σ := PNp_A (Or.inl (by decide))
theorem PNp_a2 {σ : rS} {i x : Int} : PNp (sA σ 1002 i x) = PNp σ := PNp_A (Or.inl (by decide))
theorem PNp_a5 {σ : rS} {i x : Int} : PNp (sA σ 1005 i x) = PNp σ := PNp_A (Or.inl (by decide))
theorem PNp_a20 {σ : rS} {i x : Int} : PNp (sA σ 1020 i x) = PNp σ := PNp_A (Or.inl (by decide))
theorem PNp_a26 {σ : rS} {i x : Int} : PNp (sA σ 1026 i x) = PNp σ := PNp_A (Or.inl (by decide))
theorem PNp_a27 {σ : rS} {i x : Int} : PNp (sA σ 1027 i x) = PNp σ := PNp_A (Or.inl (by decide))
theorem PNp_a34 {σ : rS} {i x : Int} : PNp (sA σ 1034 i x) = PNp σ := PNp_A (Or.inl (by decide))
theorem PNp_a35 {σ : rS} {i x : Int} : PNp (sA σ 1035 i x) = PNp σ := PNp_A (Or.inl (by decide))
theorem PNp_a36 {σ : rS} {i x : Int} : PNp (sA σ 1036 i x) = PNp σ := PNp_A (Or.inl (by decide))
theorem PNp_a37 {σ : rS} {i x : Int} : PNp (sA σ 1037 i x) = PNp σ := PNp_A (Or.inl (by decide))
theorem PNp_a40 {σ : rS} {i x : Int} : PNp (sA σ 1040 i x) = PNp σ := PNp_A (Or.inl (by decide))
theorem PNp_a46 {σ : rS} {i x : Int} : PNp (sA σ 1046 i x) = PNp σ := PNp_A (Or.inl (by decide))
theorem PNp_a47 {σ : rS} {i x : Int} : PNp (sA σ 1047 i x) = PNp σ := PNp_A (Or.inl (by decide))
theorem PNp_a48 {σ : rS} {i x : Int} : PNp (sA σ 1048 i x) = PNp σ := PNp_A (Or.inl (by decide))
theorem PNp_a49 {σ : rS} {i x : Int} : PNp (sA σ 1049 i x) = PNp σ := PNp_A (Or.inl (by decide))
theorem PNp_a50 {σ : rS} {i x : Int} : PNp (sA σ 1050 i x) = PNp σ := PNp_A (Or.inl (by decide))
theorem PNp_a51 {σ : rS} {i x : Int} : PNp (sA σ 1051 i x) = PNp σ := PNp_A (Or.inl (by decide))
theorem PNp_a52 {σ : rS} {i x : Int} : PNp (sA σ 1052 i x) = PNp σ := PNp_A (Or.inl (by decide))
theorem PNp_a53 {σ : rS} {i x : Int} : PNp (sA σ 1053 i x) = PNp σ := PNp_A (Or.inl (by decide))
theorem PNp_a54 {σ : rS} {i x : Int} : PNp (sA σ 1054 i x) = PNp σ := PNp_A (Or.inl (by decide))
theorem PNp_a55 {σ : rS} {i x : Int} : PNp (sA σ 1055 i x) = PNp σ := PNp_A (Or.inl (by decide))
theorem PNp_a56 {σ : rS} {i x : Int} : PNp (sA σ 1056 i x) = PNp σ := PNp_A (Or.inl (by decide))
theorem PNp_a57 {σ : rS} {i x : Int} : PNp (sA σ 1057 i x) = PNp σ := PNp_A (Or.inl (by decide))
theorem PNp_a58 {σ : rS} {i x : Int} : PNp (sA σ 1058 i x) = PNp σ := PNp_A (Or.inl (by decide))
theorem PNp_a59 {σ : rS} {i x : Int} : PNp (sA σ 1059 i x) = PNp σ := PNp_A (Or.inl (by decide))
theorem PNp_a61 {σ : rS} {i x : Int} : PNp (sA σ 1061 i x) = PNp σ := PNp_A (Or.inl (by decide))
theorem PNp_a62 {σ : rS} {i x : Int} : PNp (sA σ 1062 i x) = PNp σ := PNp_A (Or.inl (by decide))
theorem PNp_a63 {σ : rS} {i x : Int} : PNp (sA σ 1063 i x) = PNp σ := PNp_A (Or.inl (by decide))
theorem PNp_a64 {σ : rS} {i x : Int} : PNp (sA σ 1064 i x) = PNp σ := PNp_A (Or.inl (by decide))
theorem PNp_a69 {σ : rS} {i x : Int} : PNp (sA σ 1069 i x) = PNp σ := PNp_A (Or.inl (by decide))
theorem PNp_a75 {σ : rS} {i x : Int} : PNp (sA σ 1075 i x) = PNp σ := PNp_A (Or.inl (by decide))
theorem PNp_a76 {σ : rS} {i x : Int} : PNp (sA σ 1076 i x) = PNp σ := PNp_A (Or.inl (by decide))
theorem PNp_a77 {σ : rS} {i x : Int} : PNp (sA σ 1077 i x) = PNp σ := PNp_A (Or.inl (by decide))
theorem PNp_a78 {σ : rS} {i x : Int} : PNp (sA σ 1078 i x) = PNp σ := PNp_A (Or.inl (by decide))
theorem PNp_a79 {σ : rS} {i x : Int} : PNp (sA σ 1079 i x) = PNp σ := PNp_A (Or.inl (by decide))
theorem PNp_a84 {σ : rS} {i x : Int} : PNp (sA σ 1084 i x) = PNp σ := PNp_A (Or.inl (by decide))
theorem PNp_a85 {σ : rS} {i x : Int} : PNp (sA σ 1085 i x) = PNp σ := PNp_A (Or.inl (by decide))
theorem PNp_a86 {σ : rS} {i x : Int} : PNp (sA σ 1086 i x) = PNp σ := PNp_A (Or.inl (by decide))
theorem PNp_a87 {σ : rS} {i x : Int} : PNp (sA σ 1087 i x) = PNp σ := PNp_A (Or.inl (by decide))
theorem PNp_a89 {σ : rS} {i x : Int} : PNp (sA σ 1089 i x) = PNp σ := PNp_A (Or.inl (by decide))
theorem PNp_a90 {σ : rS} {i x : Int} : PNp (sA σ 1090 i x) = PNp σ := PNp_A (Or.inl (by decide))
theorem PNp_a91 {σ : rS} {i x : Int} : PNp (sA σ 1091 i x) = PNp σ := PNp_A (Or.inl (by decide))
theorem PNp_a93 {σ : rS} {i x : Int} : PNp (sA σ 1093 i x) = PNp σ := PNp_A (Or.inl (by decide))
theorem PNp_a102 {σ : rS} {i x : Int} : PNp (sA σ 1102 i x) = PNp σ := PNp_A (Or.inl (by decide))
theorem PNp_a105 {σ : rS} {i x : Int} : PNp (sA σ 1105 i x) = PNp σ := PNp_A (Or.inl (by decide))
theorem PNp_a106 {σ : rS} {i x : Int} : PNp (sA σ 1106 i x) = PNp σ := PNp_A (Or.inl (by decide))
theorem PNp_a107 {σ : rS} {i x : Int} : PNp (sA σ 1107 i x) = PNp σ := PNp_A (Or.inl (by decide))
theorem PNp_a108 {σ : rS} {i x : Int} : PNp (sA σ 1108 i x) = PNp σ := PNp_A (Or.inl (by decide))
theorem PNp_a109 {σ : rS} {i x : Int} : PNp (sA σ 1109 i x) = PNp σ := PNp_A (Or.inl (by decide))
theorem PNp_a110 {σ : rS} {i x : Int} : PNp (sA σ 1110 i x) = PNp σ := PNp_A (Or.inl (by decide))
theorem PNp_a111 {σ : rS} {i x : Int} : PNp (sA σ 1111 i x) = PNp σ := PNp_A (Or.inl (by decide))
theorem PNp_a114 {σ : rS} {i x : Int} : PNp (sA σ 1114 i x) = PNp σ := PNp_A (Or.inl (by decide))
theorem PNp_a115 {σ : rS} {i x : Int} : PNp (sA σ 1115 i x) = PNp σ := PNp_A (Or.inl (by decide))
theorem PNp_a116 {σ : rS} {i x : Int} : PNp (sA σ 1116 i x) = PNp σ := PNp_A (Or.inl (by decide))
theorem PNp_a117 {σ : rS} {i x : Int} : PNp (sA σ 1117 i x) = PNp σ := PNp_A (Or.inl (by decide))
theorem PNp_a120 {σ : rS} {i x : Int} : PNp (sA σ 1120 i x) = PNp σ := PNp_A (Or.inl (by decide))
theorem PNp_a121 {σ : rS} {i x : Int} : PNp (sA σ 1121 i x) = PNp σ := PNp_A (Or.inl (by decide))
theorem PNp_a124 {σ : rS} {i x : Int} : PNp (sA σ 1124 i x) = PNp σ := PNp_A (Or.inl (by decide))
theorem PNp_a125 {σ : rS} {i x : Int} : PNp (sA σ 1125 i x) = PNp σ := PNp_A (Or.inl (by decide))
theorem PNp_a126 {σ : rS} {i x : Int} : PNp (sA σ 1126 i x) = PNp σ := PNp_A (Or.inl (by decide))
theorem PNp_a127 {σ : rS} {i x : Int} : PNp (sA σ 1127 i x) = PNp σ := PNp_A (Or.inl (by decide))
theorem PNp_a128 {σ : rS} {i x : Int} : PNp (sA σ 1128 i x) = PNp σ := PNp_A (Or.inl (by decide))
theorem PNp_a129 {σ : rS} {i x : Int} : PNp (sA σ 1129 i x) = PNp σ := PNp_A (Or.inl (by decide))
theorem PNp_a136 {σ : rS} {i x : Int} : PNp (sA σ 1136 i x) = PNp σ := PNp_A (Or.inl (by decide))
theorem PNp_a138 {σ : rS} {i x : Int} : PNp (sA σ 1138 i x) = PNp σ := PNp_A (Or.inl (by decide))
def CCp (σ : rS) : Prop := TPRp σ ∧ 0 ≤ (rF σ 0 28) ∧ (rF σ 0 28) ≤ 4001 ∧ 0 ≤ (rF σ 0 14) ∧ (rF σ 0 14) ≤ 7 ∧ 0 ≤ (rF σ 0 19) ∧ -1 ≤ (rF σ 0 32) ∧ (rF σ 0 32) < 320 ∧ -1 ≤ (rF σ 0 33) ∧ (rF σ 0 33) < 320
theorem CCp.keep {a b c d e : Nat} {s t : rS} (h : rKeep a b c d e s t) (hF28 : a.testBit 28 = false) (hF30 : a.testBit 30 = false) (hF14 : a.testBit 14 = false) (hF19 : a.testBit 19 = false) (hF32 : a.testBit 32 = false) (hF33 : a.testBit 33 = false) (hA27 : c.testBit 27 = false) (hs : CCp s) : CCp t := by
  have ehF28 := h.F (f := 28) hF28
  have ehF30 := h.F (f := 30) hF30
  have ehF14 := h.F (f := 14) hF14
  have ehF19 := h.F (f := 19) hF19
  have ehF32 := h.F (f := 32) hF32
  have ehF33 := h.F (f := 33) hF33
  have ehA27 : ∀ i, rA t (1000 + 27) i = rA s (1000 + 27) i := fun i => h.A (f := 27) (by decide) hA27
  unfold CCp TPRp at *
  (try simp only [Nat.reduceAdd] at *)
  simp only [ehF28, ehF30, ehF14, ehF19, ehF32, ehF33, ehA27] at *
  exact hs
theorem CCp_sL {σ : rS} {p : Nat} {i : Int} {x : Int64} : CCp (sL σ p i x) = CCp σ := rfl
theorem CCp_sF {σ : rS} {q f : Nat} {x : Int} (h28 : f ≠ 28) (h30 : f ≠ 30) (h14 : f ≠ 14) (h19 : f ≠ 19) (h32 : f ≠ 32) (h33 : f ≠ 33) : CCp (sF σ q f x) = CCp σ := by
  simp only [CCp, TPRp, rA_sF, F_sF_ne (Ne.symm h28), F_sF_ne (Ne.symm h30), F_sF_ne (Ne.symm h14), F_sF_ne (Ne.symm h19), F_sF_ne (Ne.symm h32), F_sF_ne (Ne.symm h33)]
theorem CCp_sA {σ : rS} {p : Nat} {i x : Int} (h27 : p ≠ 1027) : CCp (sA σ p i x) = CCp σ := by
  simp only [CCp, TPRp, rF_sA, A_sA_ne (Ne.symm h27)]
theorem CCp_sF0 {σ : rS} {q : Nat} {x : Int} : CCp (sF σ q 0 x) = CCp σ := CCp_sF (by decide) (by decide) (by decide) (by decide) (by decide) (by decide)
theorem CCp_sA1 {σ : rS} {i x : Int} : CCp (sA σ 1001 i x) = CCp σ := CCp_sA (by decide)
theorem CCp_sA2 {σ : rS} {i x : Int} : CCp (sA σ 1002 i x) = CCp σ := CCp_sA (by decide)
theorem CCp_sF3 {σ : rS} {q : Nat} {x : Int} : CCp (sF σ q 3 x) = CCp σ := CCp_sF (by decide) (by decide) (by decide) (by decide) (by decide) (by decide)
theorem CCp_sA5 {σ : rS} {i x : Int} : CCp (sA σ 1005 i x) = CCp σ := CCp_sA (by decide)
theorem CCp_sF10 {σ : rS} {q : Nat} {x : Int} : CCp (sF σ q 10 x) = CCp σ := CCp_sF (by decide) (by decide) (by decide) (by decide) (by decide) (by decide)
theorem CCp_sF11 {σ : rS} {q : Nat} {x : Int} : CCp (sF σ q 11 x) = CCp σ := CCp_sF (by decide) (by decide) (by decide) (by decide) (by decide) (by decide)
theorem CCp_sF12 {σ : rS} {q : Nat} {x : Int} : CCp (sF σ q 12 x) = CCp σ := CCp_sF (by decide) (by decide) (by decide) (by decide) (by decide) (by decide)
theorem CCp_sF13 {σ : rS} {q : Nat} {x : Int} : CCp (sF σ q 13 x) = CCp σ := CCp_sF (by decide) (by decide) (by decide) (by decide) (by decide) (by decide)
theorem CCp_sF16 {σ : rS} {q : Nat} {x : Int} : CCp (sF σ q 16 x) = CCp σ := CCp_sF (by decide) (by decide) (by decide) (by decide) (by decide) (by decide)
theorem CCp_sF17 {σ : rS} {q : Nat} {x : Int} : CCp (sF σ q 17 x) = CCp σ := CCp_sF (by decide) (by decide) (by decide) (by decide) (by decide) (by decide)
theorem CCp_sF18 {σ : rS} {q : Nat} {x : Int} : CCp (sF σ q 18 x) = CCp σ := CCp_sF (by decide) (by decide) (by decide) (by decide) (by decide) (by decide)
theorem CCp_sA20 {σ : rS} {i x : Int} : CCp (sA σ 1020 i x) = CCp σ := CCp_sA (by decide)
theorem CCp_sF21 {σ : rS} {q : Nat} {x : Int} : CCp (sF σ q 21 x) = CCp σ := CCp_sF (by decide) (by decide) (by decide) (by decide) (by decide) (by decide)
theorem CCp_sF22 {σ : rS} {q : Nat} {x : Int} : CCp (sF σ q 22 x) = CCp σ := CCp_sF (by decide) (by decide) (by decide) (by decide) (by decide) (by decide)
theorem CCp_sF23 {σ : rS} {q : Nat} {x : Int} : CCp (sF σ q 23 x) = CCp σ := CCp_sF (by decide) (by decide) (by decide) (by decide) (by decide) (by decide)
theorem CCp_sF24 {σ : rS} {q : Nat} {x : Int} : CCp (sF σ q 24 x) = CCp σ := CCp_sF (by decide) (by decide) (by decide) (by decide) (by decide) (by decide)
theorem CCp_sF25 {σ : rS} {q : Nat} {x : Int} : CCp (sF σ q 25 x) = CCp σ := CCp_sF (by decide) (by decide) (by decide) (by decide) (by decide) (by decide)
theorem CCp_sA26 {σ : rS} {i x : Int} : CCp (sA σ 1026 i x) = CCp σ := CCp_sA (by decide)
theorem CCp_sF29 {σ : rS} {q : Nat} {x : Int} : CCp (sF σ q 29 x) = CCp σ := CCp_sF (by decide) (by decide) (by decide) (by decide) (by decide) (by decide)
theorem CCp_sF31 {σ : rS} {q : Nat} {x : Int} : CCp (sF σ q 31 x) = CCp σ := CCp_sF (by decide) (by decide) (by decide) (by decide) (by decide) (by decide)
theorem CCp_sA34 {σ : rS} {i x : Int} : CCp (sA σ 1034 i x) = CCp σ := CCp_sA (by decide)
theorem CCp_sA35 {σ : rS} {i x : Int} : CCp (sA σ 1035 i x) = CCp σ := CCp_sA (by decide)
theorem CCp_sA36 {σ : rS} {i x : Int} : CCp (sA σ 1036 i x) = CCp σ := CCp_sA (by decide)
theorem CCp_sA37 {σ : rS} {i x : Int} : CCp (sA σ 1037 i x) = CCp σ := CCp_sA (by decide)
theorem CCp_sF38 {σ : rS} {q : Nat} {x : Int} : CCp (sF σ q 38 x) = CCp σ := CCp_sF (by decide) (by decide) (by decide) (by decide) (by decide) (by decide)
theorem CCp_sF39 {σ : rS} {q : Nat} {x : Int} : CCp (sF σ q 39 x) = CCp σ := CCp_sF (by decide) (by decide) (by decide) (by decide) (by decide) (by decide)
theorem CCp_sA40 {σ : rS} {i x : Int} : CCp (sA σ 1040 i x) = CCp σ := CCp_sA (by decide)
theorem CCp_sF41 {σ : rS} {q : Nat} {x : Int} : CCp (sF σ q 41 x) = CCp σ := CCp_sF (by decide) (by decide) (by decide) (by decide) (by decide) (by decide)
theorem CCp_sF42 {σ : rS} {q : Nat} {x : Int} : CCp (sF σ q 42 x) = CCp σ := CCp_sF (by decide) (by decide) (by decide) (by decide) (by decide) (by decide)
theorem CCp_sF43 {σ : rS} {q : Nat} {x : Int} : CCp (sF σ q 43 x) = CCp σ := CCp_sF (by decide) (by decide) (by decide) (by decide) (by decide) (by decide)
theorem CCp_sF44 {σ : rS} {q : Nat} {x : Int} : CCp (sF σ q 44 x) = CCp σ := CCp_sF (by decide) (by decide) (by decide) (by decide) (by decide) (by decide)
theorem CCp_sF45 {σ : rS} {q : Nat} {x : Int} : CCp (sF σ q 45 x) = CCp σ := CCp_sF (by decide) (by decide) (by decide) (by decide) (by decide) (by decide)
theorem CCp_sA46 {σ : rS} {i x : Int} : CCp (sA σ 1046 i x) = CCp σ := CCp_sA (by decide)
theorem CCp_sA47 {σ : rS} {i x : Int} : CCp (sA σ 1047 i x) = CCp σ := CCp_sA (by decide)
theorem CCp_sA48 {σ : rS} {i x : Int} : CCp (sA σ 1048 i x) = CCp σ := CCp_sA (by decide)
theorem CCp_sA49 {σ : rS} {i x : Int} : CCp (sA σ 1049 i x) = CCp σ := CCp_sA (by decide)
theorem CCp_sA50 {σ : rS} {i x : Int} : CCp (sA σ 1050 i x) = CCp σ := CCp_sA (by decide)
theorem CCp_sA51 {σ : rS} {i x : Int} : CCp (sA σ 1051 i x) = CCp σ := CCp_sA (by decide)
theorem CCp_sA52 {σ : rS} {i x : Int} : CCp (sA σ 1052 i x) = CCp σ := CCp_sA (by decide)
theorem CCp_sA53 {σ : rS} {i x : Int} : CCp (sA σ 1053 i x) = CCp σ := CCp_sA (by decide)
theorem CCp_sA54 {σ : rS} {i x : Int} : CCp (sA σ 1054 i x) = CCp σ := CCp_sA (by decide)
theorem CCp_sA55 {σ : rS} {i x : Int} : CCp (sA σ 1055 i x) = CCp σ := CCp_sA (by decide)
theorem CCp_sA56 {σ : rS} {i x : Int} : CCp (sA σ 1056 i x) = CCp σ := CCp_sA (by decide)
theorem CCp_sA57 {σ : rS} {i x : Int} : CCp (sA σ 1057 i x) = CCp σ := CCp_sA (by decide)
theorem CCp_sA58 {σ : rS} {i x : Int} : CCp (sA σ 1058 i x) = CCp σ := CCp_sA (by decide)
theorem CCp_sA59 {σ : rS} {i x : Int} : CCp (sA σ 1059 i x) = CCp σ := CCp_sA (by decide)
theorem CCp_sF60 {σ : rS} {q : Nat} {x : Int} : CCp (sF σ q 60 x) = CCp σ := CCp_sF (by decide) (by decide) (by decide) (by decide) (by decide) (by decide)
theorem CCp_sA61 {σ : rS} {i x : Int} : CCp (sA σ 1061 i x) = CCp σ := CCp_sA (by decide)
theorem CCp_sA62 {σ : rS} {i x : Int} : CCp (sA σ 1062 i x) = CCp σ := CCp_sA (by decide)
theorem CCp_sA63 {σ : rS} {i x : Int} : CCp (sA σ 1063 i x) = CCp σ := CCp_sA (by decide)
theorem CCp_sA64 {σ : rS} {i x : Int} : CCp (sA σ 1064 i x) = CCp σ := CCp_sA (by decide)
theorem CCp_sF65 {σ : rS} {q : Nat} {x : Int} : CCp (sF σ q 65 x) = CCp σ := CCp_sF (by decide) (by decide) (by decide) (by decide) (by decide) (by decide)
theorem CCp_sF66 {σ : rS} {q : Nat} {x : Int} : CCp (sF σ q 66 x) = CCp σ := CCp_sF (by decide) (by decide) (by decide) (by decide) (by decide) (by decide)
theorem CCp_sF67 {σ : rS} {q : Nat} {x : Int} : CCp (sF σ q 67 x) = CCp σ := CCp_sF (by decide) (by decide) (by decide) (by decide) (by decide) (by decide)
theorem CCp_sF68 {σ : rS} {q : Nat} {x : Int} : CCp (sF σ q 68 x) = CCp σ := CCp_sF (by decide) (by decide) (by decide) (by decide) (by decide) (by decide)
theorem CCp_sA69 {σ : rS} {i x : Int} : CCp (sA σ 1069 i x) = CCp σ := CCp_sA (by decide)
theorem CCp_sF70 {σ : rS} {q : Nat} {x : Int} : CCp (sF σ q 70 x) = CCp σ := CCp_sF (by decide) (by decide) (by decide) (by decide) (by decide) (by decide)
theorem CCp_sF71 {σ : rS} {q : Nat} {x : Int} : CCp (sF σ q 71 x) = CCp σ := CCp_sF (by decide) (by decide) (by decide) (by decide) (by decide) (by decide)
theorem CCp_sF72 {σ : rS} {q : Nat} {x : Int} : CCp (sF σ q 72 x) = CCp σ := CCp_sF (by decide) (by decide) (by decide) (by decide) (by decide) (by decide)
theorem CCp_sF73 {σ : rS} {q : Nat} {x : Int} : CCp (sF σ q 73 x) = CCp σ := CCp_sF (by decide) (by decide) (by decide) (by decide) (by decide) (by decide)
theorem CCp_sF74 {σ : rS} {q : Nat} {x : Int} : CCp (sF σ q 74 x) = CCp σ := CCp_sF (by decide) (by decide) (by decide) (by decide) (by decide) (by decide)
theorem CCp_sA75 {σ : rS} {i x : Int} : CCp (sA σ 1075 i x) = CCp σ := CCp_sA (by decide)
theorem CCp_sA76 {σ : rS} {i x : Int} : CCp (sA σ 1076 i x) = CCp σ := CCp_sA (by decide)
theorem CCp_sA77 {σ : rS} {i x : Int} : CCp (sA σ 1077 i x) = CCp σ := CCp_sA (by decide)
theorem CCp_sA78 {σ : rS} {i x : Int} : CCp (sA σ 1078 i x) = CCp σ := CCp_sA (by decide)
theorem CCp_sA79 {σ : rS} {i x : Int} : CCp (sA σ 1079 i x) = CCp σ := CCp_sA (by decide)
theorem CCp_sF80 {σ : rS} {q : Nat} {x : Int} : CCp (sF σ q 80 x) = CCp σ := CCp_sF (by decide) (by decide) (by decide) (by decide) (by decide) (by decide)
theorem CCp_sF81 {σ : rS} {q : Nat} {x : Int} : CCp (sF σ q 81 x) = CCp σ := CCp_sF (by decide) (by decide) (by decide) (by decide) (by decide) (by decide)
theorem CCp_sF82 {σ : rS} {q : Nat} {x : Int} : CCp (sF σ q 82 x) = CCp σ := CCp_sF (by decide) (by decide) (by decide) (by decide) (by decide) (by decide)
theorem CCp_sF83 {σ : rS} {q : Nat} {x : Int} : CCp (sF σ q 83 x) = CCp σ := CCp_sF (by decide) (by decide) (by decide) (by decide) (by decide) (by decide)
theorem CCp_sA84 {σ : rS} {i x : Int} : CCp (sA σ 1084 i x) = CCp σ := CCp_sA (by decide)
theorem CCp_sA85 {σ : rS} {i x : Int} : CCp (sA σ 1085 i x) = CCp σ := CCp_sA (by decide)
theorem CCp_sA86 {σ : rS} {i x : Int} : CCp (sA σ 1086 i x) = CCp σ := CCp_sA (by decide)
theorem CCp_sA87 {σ : rS} {i x : Int} : CCp (sA σ 1087 i x) = CCp σ := CCp_sA (by decide)
theorem CCp_sF88 {σ : rS} {q : Nat} {x : Int} : CCp (sF σ q 88 x) = CCp σ := CCp_sF (by decide) (by decide) (by decide) (by decide) (by decide) (by decide)
theorem CCp_sA89 {σ : rS} {i x : Int} : CCp (sA σ 1089 i x) = CCp σ := CCp_sA (by decide)
theorem CCp_sA90 {σ : rS} {i x : Int} : CCp (sA σ 1090 i x) = CCp σ := CCp_sA (by decide)
theorem CCp_sA91 {σ : rS} {i x : Int} : CCp (sA σ 1091 i x) = CCp σ := CCp_sA (by decide)
theorem CCp_sF92 {σ : rS} {q : Nat} {x : Int} : CCp (sF σ q 92 x) = CCp σ := CCp_sF (by decide) (by decide) (by decide) (by decide) (by decide) (by decide)
theorem CCp_sA93 {σ : rS} {i x : Int} : CCp (sA σ 1093 i x) = CCp σ := CCp_sA (by decide)
theorem CCp_sF94 {σ : rS} {q : Nat} {x : Int} : CCp (sF σ q 94 x) = CCp σ := CCp_sF (by decide) (by decide) (by decide) (by decide) (by decide) (by decide)
theorem CCp_sF96 {σ : rS} {q : Nat} {x : Int} : CCp (sF σ q 96 x) = CCp σ := CCp_sF (by decide) (by decide) (by decide) (by decide) (by decide) (by decide)
theorem CCp_sF97 {σ : rS} {q : Nat} {x : Int} : CCp (sF σ q 97 x) = CCp σ := CCp_sF (by decide) (by decide) (by decide) (by decide) (by decide) (by decide)
theorem CCp_sF98 {σ : rS} {q : Nat} {x : Int} : CCp (sF σ q 98 x) = CCp σ := CCp_sF (by decide) (by decide) (by decide) (by decide) (by decide) (by decide)
theorem CCp_sF99 {σ : rS} {q : Nat} {x : Int} : CCp (sF σ q 99 x) = CCp σ := CCp_sF (by decide) (by decide) (by decide) (by decide) (by decide) (by decide)
theorem CCp_sF100 {σ : rS} {q : Nat} {x : Int} : CCp (sF σ q 100 x) = CCp σ := CCp_sF (by decide) (by decide) (by decide) (by decide) (by decide) (by decide)
theorem CCp_sF101 {σ : rS} {q : Nat} {x : Int} : CCp (sF σ q 101 x) = CCp σ := CCp_sF (by decide) (by decide) (by decide) (by decide) (by decide) (by decide)
theorem CCp_sA102 {σ : rS} {i x : Int} : CCp (sA σ 1102 i x) = CCp σ := CCp_sA (by decide)
theorem CCp_sF103 {σ : rS} {q : Nat} {x : Int} : CCp (sF σ q 103 x) = CCp σ := CCp_sF (by decide) (by decide) (by decide) (by decide) (by decide) (by decide)
theorem CCp_sF104 {σ : rS} {q : Nat} {x : Int} : CCp (sF σ q 104 x) = CCp σ := CCp_sF (by decide) (by decide) (by decide) (by decide) (by decide) (by decide)
theorem CCp_sA105 {σ : rS} {i x : Int} : CCp (sA σ 1105 i x) = CCp σ := CCp_sA (by decide)
theorem CCp_sA106 {σ : rS} {i x : Int} : CCp (sA σ 1106 i x) = CCp σ := CCp_sA (by decide)
theorem CCp_sA107 {σ : rS} {i x : Int} : CCp (sA σ 1107 i x) = CCp σ := CCp_sA (by decide)
theorem CCp_sA108 {σ : rS} {i x : Int} : CCp (sA σ 1108 i x) = CCp σ := CCp_sA (by decide)
theorem CCp_sA109 {σ : rS} {i x : Int} : CCp (sA σ 1109 i x) = CCp σ := CCp_sA (by decide)
theorem CCp_sA110 {σ : rS} {i x : Int} : CCp (sA σ 1110 i x) = CCp σ := CCp_sA (by decide)
theorem CCp_sA111 {σ : rS} {i x : Int} : CCp (sA σ 1111 i x) = CCp σ := CCp_sA (by decide)
theorem CCp_sF112 {σ : rS} {q : Nat} {x : Int} : CCp (sF σ q 112 x) = CCp σ := CCp_sF (by decide) (by decide) (by decide) (by decide) (by decide) (by decide)
theorem CCp_sF113 {σ : rS} {q : Nat} {x : Int} : CCp (sF σ q 113 x) = CCp σ := CCp_sF (by decide) (by decide) (by decide) (by decide) (by decide) (by decide)
theorem CCp_sA114 {σ : rS} {i x : Int} : CCp (sA σ 1114 i x) = CCp σ := CCp_sA (by decide)
theorem CCp_sA115 {σ : rS} {i x : Int} : CCp (sA σ 1115 i x) = CCp σ := CCp_sA (by decide)
theorem CCp_sA116 {σ : rS} {i x : Int} : CCp (sA σ 1116 i x) = CCp σ := CCp_sA (by decide)
theorem CCp_sA117 {σ : rS} {i x : Int} : CCp (sA σ 1117 i x) = CCp σ := CCp_sA (by decide)
theorem CCp_sF118 {σ : rS} {q : Nat} {x : Int} : CCp (sF σ q 118 x) = CCp σ := CCp_sF (by decide) (by decide) (by decide) (by decide) (by decide) (by decide)
theorem CCp_sF119 {σ : rS} {q : Nat} {x : Int} : CCp (sF σ q 119 x) = CCp σ := CCp_sF (by decide) (by decide) (by decide) (by decide) (by decide) (by decide)
theorem CCp_sA120 {σ : rS} {i x : Int} : CCp (sA σ 1120 i x) = CCp σ := CCp_sA (by decide)
theorem CCp_sA121 {σ : rS} {i x : Int} : CCp (sA σ 1121 i x) = CCp σ := CCp_sA (by decide)
theorem CCp_sF122 {σ : rS} {q : Nat} {x : Int} : CCp (sF σ q 122 x) = CCp σ := CCp_sF (by decide) (by decide) (by decide) (by decide) (by decide) (by decide)
theorem CCp_sF123 {σ : rS} {q : Nat} {x : Int} : CCp (sF σ q 123 x) = CCp σ := CCp_sF (by decide) (by decide) (by decide) (by decide) (by decide) (by decide)
theorem CCp_sA124 {σ : rS} {i x : Int} : CCp (sA σ 1124 i x) = CCp σ := CCp_sA (by decide)
theorem CCp_sA125 {σ : rS} {i x : Int} : CCp (sA σ 1125 i x) = CCp σ := CCp_sA (by decide)
theorem CCp_sA126 {σ : rS} {i x : Int} : CCp (sA σ 1126 i x) = CCp σ := CCp_sA (by decide)
theorem CCp_sA127 {σ : rS} {i x : Int} : CCp (sA σ 1127 i x) = CCp σ := CCp_sA (by decide)
theorem CCp_sA128 {σ : rS} {i x : Int} : CCp (sA σ 1128 i x) = CCp σ := CCp_sA (by decide)
theorem CCp_sA129 {σ : rS} {i x : Int} : CCp (sA σ 1129 i x) = CCp σ := CCp_sA (by decide)
theorem CCp_sF135 {σ : rS} {q : Nat} {x : Int} : CCp (sF σ q 135 x) = CCp σ := CCp_sF (by decide) (by decide) (by decide) (by decide) (by decide) (by decide)
theorem CCp_sA136 {σ : rS} {i x : Int} : CCp (sA σ 1136 i x) = CCp σ := CCp_sA (by decide)
theorem CCp_sF137 {σ : rS} {q : Nat} {x : Int} : CCp (sF σ q 137 x) = CCp σ := CCp_sF (by decide) (by decide) (by decide) (by decide) (by decide) (by decide)
theorem CCp_sA138 {σ : rS} {i x : Int} : CCp (sA σ 1138 i x) = CCp σ := CCp_sA (by decide)
theorem CCp_gA0 {σ : rS} {k : Nat} {i x : Int} : CCp (sA σ (1000 * (k + 1) + 0) i x) = CCp σ := CCp_sA (by omega)
theorem CCp_gA1 {σ : rS} {k : Nat} {i x : Int} : CCp (sA σ (1000 * (k + 1) + 1) i x) = CCp σ := CCp_sA (by omega)
theorem CCp_gA2 {σ : rS} {k : Nat} {i x : Int} : CCp (sA σ (1000 * (k + 1) + 2) i x) = CCp σ := CCp_sA (by omega)
theorem CCp_gA3 {σ : rS} {k : Nat} {i x : Int} : CCp (sA σ (1000 * (k + 1) + 3) i x) = CCp σ := CCp_sA (by omega)
theorem CCp_gA4 {σ : rS} {k : Nat} {i x : Int} : CCp (sA σ (1000 * (k + 1) + 4) i x) = CCp σ := CCp_sA (by omega)
theorem CCp_gA5 {σ : rS} {k : Nat} {i x : Int} : CCp (sA σ (1000 * (k + 1) + 5) i x) = CCp σ := CCp_sA (by omega)
theorem CCp_gA6 {σ : rS} {k : Nat} {i x : Int} : CCp (sA σ (1000 * (k + 1) + 6) i x) = CCp σ := CCp_sA (by omega)
theorem CCp_sF7 {σ : rS} {q : Nat} {x : Int} : CCp (sF σ q 7 x) = CCp σ := CCp_sF (by decide) (by decide) (by decide) (by decide) (by decide) (by decide)
theorem CCp_gA8 {σ : rS} {k : Nat} {i x : Int} : CCp (sA σ (1000 * (k + 1) + 8) i x) = CCp σ := CCp_sA (by omega)
theorem CCp_sF9 {σ : rS} {q : Nat} {x : Int} : CCp (sF σ q 9 x) = CCp σ := CCp_sF (by decide) (by decide) (by decide) (by decide) (by decide) (by decide)
theorem CCp_gA10 {σ : rS} {k : Nat} {i x : Int} : CCp (sA σ (1000 * (k + 1) + 10) i x) = CCp σ := CCp_sA (by omega)
theorem CCp_gA11 {σ : rS} {k : Nat} {i x : Int} : CCp (sA σ (1000 * (k + 1) + 11) i x) = CCp σ := CCp_sA (by omega)
theorem CCp_gA15 {σ : rS} {k : Nat} {i x : Int} : CCp (sA σ (1000 * (k + 1) + 15) i x) = CCp σ := CCp_sA (by omega)
theorem CCp_gA16 {σ : rS} {k : Nat} {i x : Int} : CCp (sA σ (1000 * (k + 1) + 16) i x) = CCp σ := CCp_sA (by omega)
theorem CCp_gA17 {σ : rS} {k : Nat} {i x : Int} : CCp (sA σ (1000 * (k + 1) + 17) i x) = CCp σ := CCp_sA (by omega)
theorem CCp_gA18 {σ : rS} {k : Nat} {i x : Int} : CCp (sA σ (1000 * (k + 1) + 18) i x) = CCp σ := CCp_sA (by omega)
theorem CCp_gA19 {σ : rS} {k : Nat} {i x : Int} : CCp (sA σ (1000 * (k + 1) + 19) i x) = CCp σ := CCp_sA (by omega)
theorem CCp_gA20 {σ : rS} {k : Nat} {i x : Int} : CCp (sA σ (1000 * (k + 1) + 20) i x) = CCp σ := CCp_sA (by omega)
theorem CCp_gA21 {σ : rS} {k : Nat} {i x : Int} : CCp (sA σ (1000 * (k + 1) + 21) i x) = CCp σ := CCp_sA (by omega)
theorem CCp_gA22 {σ : rS} {k : Nat} {i x : Int} : CCp (sA σ (1000 * (k + 1) + 22) i x) = CCp σ := CCp_sA (by omega)
theorem CCp_gA23 {σ : rS} {k : Nat} {i x : Int} : CCp (sA σ (1000 * (k + 1) + 23) i x) = CCp σ := CCp_sA (by omega)
theorem CCp_gA24 {σ : rS} {k : Nat} {i x : Int} : CCp (sA σ (1000 * (k + 1) + 24) i x) = CCp σ := CCp_sA (by omega)
theorem CCp_gA25 {σ : rS} {k : Nat} {i x : Int} : CCp (sA σ (1000 * (k + 1) + 25) i x) = CCp σ := CCp_sA (by omega)
theorem CCp_gA26 {σ : rS} {k : Nat} {i x : Int} : CCp (sA σ (1000 * (k + 1) + 26) i x) = CCp σ := CCp_sA (by omega)
theorem CCp_gA29 {σ : rS} {k : Nat} {i x : Int} : CCp (sA σ (1000 * (k + 1) + 29) i x) = CCp σ := CCp_sA (by omega)
theorem CCp_gA30 {σ : rS} {k : Nat} {i x : Int} : CCp (sA σ (1000 * (k + 1) + 30) i x) = CCp σ := CCp_sA (by omega)
theorem CCp_gA31 {σ : rS} {k : Nat} {i x : Int} : CCp (sA σ (1000 * (k + 1) + 31) i x) = CCp σ := CCp_sA (by omega)
theorem CCp_gA33 {σ : rS} {k : Nat} {i x : Int} : CCp (sA σ (1000 * (k + 1) + 33) i x) = CCp σ := CCp_sA (by omega)
theorem CCp_gA34 {σ : rS} {k : Nat} {i x : Int} : CCp (sA σ (1000 * (k + 1) + 34) i x) = CCp σ := CCp_sA (by omega)
theorem CCp_gA35 {σ : rS} {k : Nat} {i x : Int} : CCp (sA σ (1000 * (k + 1) + 35) i x) = CCp σ := CCp_sA (by omega)
theorem CCp_gA36 {σ : rS} {k : Nat} {i x : Int} : CCp (sA σ (1000 * (k + 1) + 36) i x) = CCp σ := CCp_sA (by omega)
theorem CCp_gA37 {σ : rS} {k : Nat} {i x : Int} : CCp (sA σ (1000 * (k + 1) + 37) i x) = CCp σ := CCp_sA (by omega)
theorem CCp_sT {σ : rS} {k f : Nat} {i x : Int} (hk : rgk k) : CCp (sT σ k f i x) = CCp σ := by
  have h1 : 1 ≤ k := by rcases hk with rfl | rfl | rfl <;> decide
  exact CCp_sA (by omega)
theorem rNMp_g34 {σ : rS} {k : Nat} {i x : Int} : rNMp (sA σ (1000 * (k + 1) + 34) i x) = rNMp σ := rNMp_A (Or.inr (by omega))
theorem PNp_g34 {σ : rS} {k : Nat} {i x : Int} : PNp (sA σ (1000 * (k + 1) + 34) i x) = PNp σ := PNp_A (Or.inr (by omega))
theorem rNMp.grow {σ s : rS} {k : Nat} (h : rNMp σ) (e0 : rR σ 7 = k) (e7 : rR s 7 = k) (e12 : rF s k 12 = rF σ k 12) (e9 : rF σ k 9 ≤ rF s k 9) (a10 : ∀ j, rA s (1000 * (k + 1) + 10) j = rA σ (1000 * (k + 1) + 10) j) (a11 : ∀ j, rA s (1000 * (k + 1) + 11) j = rA σ (1000 * (k + 1) + 11) j) : rNMp s := by
  subst e0
  unfold rNMp rNM at *
  rw [e7]
  obtain ⟨h1, h2, h3, h4⟩ := h
  refine ⟨h1, by omega, by omega, fun j a b => ?_⟩
  have := h4 j a (by omega)
  rw [a10, a11]; omega
theorem WNp_g34 {σ : rS} {k : Nat} {i x : Int} (hk : rgk k) : WNp (sA σ (1000 * (k + 1) + 34) i x) = WNp σ := by
  have h1 : 1 ≤ k := by rcases hk with rfl | rfl | rfl <;> decide
  exact WNp_sA (by omega) (by omega) (by omega) (by omega)
theorem fz_01 (σ : rS) : fz σ = 0 ∨ fz σ = 1 := by unfold fz; split <;> omega
def TWp (b : Int → Int) (n k c : Int) : Prop := k + 1 < n ∧ b k = c ∧ b (k + 1) = c
def ORp (A B : Prop) : Prop := A ∨ B
def LTp (x : Int) : Prop := 97 ≤ x ∧ x ≤ 122 ∨ 65 ≤ x ∧ x ≤ 90 ∨ x = 95
def NBP (σ : rS) (gg : Nat) (B C : Int) : Prop := 0 ≤ (rF σ 0 29) ∧ (rF σ 0 29) ≤ (rF σ 0 28) + 3 * fz σ ∧ 0 ≤ (rF σ 0 38) ∧ 1 ≤ (rF σ gg 7) ∧ 0 ≤ (rF σ gg 38) ∧ 0 ≤ (rF σ gg 32) ∧ 0 ≤ (rF σ gg 9) ∧ 0 ≤ (rF σ gg 12) ∧ (rF σ 0 38) + ((rF σ 0 28) + 3 - (rF σ 0 29)) ≤ 8990 ∧ (rF σ gg 7) + 3 * (rF σ 0 38) + 4 * ((rF σ 0 28) + 3 - (rF σ 0 29)) ≤ B ∧ (rF σ gg 9) + (rF σ 0 38) + ((rF σ 0 28) + 3 - (rF σ 0 29)) ≤ 59900 ∧ (rF σ gg 12) + ((rF σ 0 28) + 3 - (rF σ 0 29)) ≤ 16900 ∧ (rF σ gg 38) + ((rF σ 0 28) + 3 - (rF σ 0 29)) ≤ C + fz σ ∧ 2 * (rF σ gg 32) + ((rF σ 0 28) + 3 - (rF σ 0 29)) ≤ 10780 ∧ 0 ≤ (rF σ 0 39) ∧ (rF σ 0 39) ≤ 21 ∧ 0 ≤ (rF σ 0 31) ∧ (rF σ 0 31) ≤ 22 ∧ (rF σ 0 31) ≤ 20 + 2 * fz σ ∧ (rF σ 0 39) ≤ (rF σ 0 31) + 1 + 30 * fz σ
def NBQ (σ σ' : rS) (gg : Nat) (sl sn dw dw1 dp : Int) : Prop := (rF σ 0 29) ≤ (rF σ' 0 29) ∧ (rF σ' 0 29) ≤ (rF σ 0 28) + 3 * fz σ' ∧ fz σ ≤ fz σ' ∧ (rF σ 0 38) ≤ (rF σ' 0 38) ∧ (rF σ' 0 38) + (rF σ 0 29) ≤ (rF σ 0 38) + (rF σ' 0 29) + dw1 ∧ (rF σ' 0 38) ≤ (rF σ 0 38) + dw + 9000 * fz σ' ∧ (rF σ 0 38) + dw ≤ (rF σ' 0 38) + 10 * fz σ' ∧ (rF σ gg 7) ≤ (rF σ' gg 7) ∧ (rF σ' gg 7) + 3 * (rF σ' 0 38) + 4 * (rF σ 0 29) + sn ≤ (rF σ gg 7) + 3 * (rF σ 0 38) + 4 * (rF σ' 0 29) + sl * fz σ' ∧ (rF σ gg 9) ≤ (rF σ' gg 9) ∧ (rF σ' gg 9) + (rF σ' 0 38) + (rF σ 0 29) ≤ (rF σ gg 9) + (rF σ 0 38) + (rF σ' 0 29) + dw1 ∧ (rF σ gg 12) ≤ (rF σ' gg 12) ∧ (rF σ' gg 12) + (rF σ 0 29) ≤ (rF σ gg 12) + (rF σ' 0 29) ∧ (rF σ gg 38) ≤ (rF σ' gg 38) ∧ (rF σ' gg 38) + (rF σ 0 29) ≤ (rF σ gg 38) + (rF σ' 0 29) + fz σ' - fz σ ∧ (rF σ gg 32) ≤ (rF σ' gg 32) ∧ 2 * (rF σ' gg 32) + (rF σ 0 29) ≤ 2 * (rF σ gg 32) + (rF σ' 0 29) ∧ 0 ≤ (rF σ' 0 39) ∧ (rF σ' 0 39) ≤ 21 ∧ (rF σ' 0 39) ≤ (rF σ 0 39) + 21 * fz σ' ∧ (rF σ 0 39) ≤ (rF σ' 0 39) + 21 * fz σ' ∧ 0 ≤ (rF σ' 0 31) ∧ (rF σ' 0 31) ≤ 22 ∧ dp ≤ (rF σ' 0 31) ∧ (rF σ' 0 31) ≤ dp + 40 * fz σ'
theorem dig_blanks {σ s : rS} (q : post_X14_blanks σ s) (c0 : rF σ 0 29 ≤ rF σ 0 28 + 3 * fz σ) : rF σ 0 29 ≤ rF s 0 29 ∧ rF s 0 29 ≤ rF σ 0 28 + 3 * fz σ := by
  have := fz_rng σ
  unfold post_X14_blanks at q; omega
theorem dig_need {σ s : rS} {x : Int} (q : post_X14_need σ x s) (c0 : rF σ 0 29 ≤ rF σ 0 28 + 3) : rF σ 0 29 ≤ rF s 0 29 ∧ rF s 0 29 ≤ rF σ 0 28 + 3 * fz s ∧ rF σ 0 29 + 1 ≤ rF s 0 29 + fz s ∧ fz σ ≤ fz s := by
  unfold post_X14_need at q
  obtain ⟨q1, q2, q3, q4⟩ := q
  have := fz_le q3
  refine ⟨q1, ?_, ?_, this⟩ <;> by_cases e : rF s 0 10 = 0
  · rw [fz_z e]; have := q4 e; omega
  · rw [fz_n e]; omega
  · rw [fz_z e]; have := q4 e; omega
  · rw [fz_n e]; omega
theorem dig_bad {σ s : rS} {x y : Int} (q : post_X14_bad σ x y s) (c0 : x ≠ 0) : fz s = 1 ∧ fz σ ≤ fz s := by
  unfold post_X14_bad at q
  have h2 : rF s 0 10 ≠ 0 := by by_cases e : rF σ 0 10 = 0; have := q.2 e; omega; have := q.1 e; omega
  exact ⟨fz_n h2, fz_le q.1⟩
theorem dig_deeper {σ s : rS} {x : Int} (q : post_X14_deeper σ x s) (c0 : rF σ 0 31 ≤ 20) : rF s 0 31 = rF σ 0 31 + 1 ∧ fz σ ≤ fz s ∧ rF s 0 31 ≤ 20 + fz s := by
  unfold post_X14_deeper at q
  refine ⟨q.1, fz_le q.2.1, ?_⟩
  by_cases e : rF s 0 10 = 0
  · rw [fz_z e]; have := q.2.2 e; omega
  · rw [fz_n e]; omega
theorem dig_tagName {σ s : rS} {r : Int} (q : post_X14_tagName σ r s) (c0 : rF σ (rR σ 7) 12 + (rF σ 0 28 + 3 - rF σ 0 29) ≤ 16990) (c1 : rF σ 0 29 ≤ rF σ 0 28 + 3) (c2 : -2147483648 ≤ r ∧ r ≤ 2147483647) : rF σ 0 29 ≤ rF s 0 29 ∧ rF s 0 29 ≤ rF σ 0 28 + 3 * fz s ∧ fz σ ≤ fz s ∧ rNMp s ∧ rF σ (rR σ 7) 12 ≤ rF s (rR σ 7) 12 ∧ rF σ (rR σ 7) 9 ≤ rF s (rR σ 7) 9 ∧ rF s (rR σ 7) 12 + rF σ 0 29 ≤ rF σ (rR σ 7) 12 + rF s 0 29 ∧ rF s (rR σ 7) 9 + rF σ 0 29 ≤ rF σ (rR σ 7) 9 + rF s 0 29 ∧ rF σ 0 29 + 1 ≤ rF s 0 29 + fz s ∧ 0 ≤ r + 2147483648 * fz s ∧ r < 17000 + 2147483648 * fz s ∧ (fz s = 1 ∨ (0 ≤ rF s 0 41 ∧ rF s 0 41 ≤ 4000 ∧ r < rF s (rR σ 7) 12)) := by
  unfold post_X14_tagName at q
  obtain ⟨q1, q2, q3, q4, q5, q6, q7, q8, q9, q10⟩ := q
  have z := fz_le q4
  by_cases e : rF s 0 10 = 0
  · rw [fz_z e] at *; have := q10 e; have := q3 e; refine ⟨q1, by omega, z, q5, q6, q7, q8, q9, by omega, by omega, by omega, Or.inr (by omega)⟩
  · rw [fz_n e] at *; refine ⟨q1, by omega, z, q5, q6, q7, q8, q9, by omega, by omega, by omega, Or.inl rfl⟩
