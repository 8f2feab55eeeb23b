def PNp (σ : rS) : Prop := rgk (rR σ 7) ∧ (∀ j, 0 ≤ j → j < rF σ (rR σ 7) 32 → 0 ≤ rA σ (1000 * (rR σ 7 + 1) + 31) j ∧ rA σ (1000 * (rR σ 7 + 1) + 31) j < 50000)
theorem PNp.keep {a b c d e : Nat} {s t : rS} (h : rKeep a b c d e s t) (hG32 : b.testBit 32 = false) (hAG31 : d.testBit 31 = false) (hR7 : e.testBit 7 = false) (hs : PNp s) : PNp t := by
  have ehR7 := h.R (f := 7) hR7
  have hk : rgk (rR s 7) := hs.1
  have ehG32 := h.FG (f := 32) hk hG32
  have ehAG31 : ∀ i, rA t (1000 * (rR s 7 + 1) + 31) i = rA s (1000 * (rR s 7 + 1) + 31) i := fun i => h.AG (f := 31) hk (by decide) hAG31
  unfold PNp at *
  (try simp only [Nat.reduceAdd] at *)
  simp only [ehR7, ehG32, ehAG31] at *
  exact hs
theorem PNp_sL {σ : rS} {p : Nat} {i : Int} {x : Int64} : PNp (sL σ p i x) = PNp σ := rfl
theorem rNMp_sF {σ : rS} {f : Nat} {x : Int} : rNMp (sF σ 0 f x) = rNMp σ := by
  have e : ∀ g, rgk (rR σ 7) → rF (sF σ 0 f x) (rR σ 7) g = rF σ (rR σ 7) g := fun g hk => F_sF_nq (rk_n0 hk)
  unfold rNMp rNM
  simp only [rR_sF, rA_sF]
  refine propext ⟨fun h => ⟨h.1, ?_⟩, fun h => ⟨h.1, ?_⟩⟩
  · have h2 := h.2; simp only [e _ h.1] at h2; exact h2
  · simp only [e _ h.1]; exact h.2
theorem rNMp_A {σ : rS} {p : Nat} {i x : Int} (hp : p < 2000 ∨ p % 1000 ≠ 10 ∧ p % 1000 ≠ 11) : rNMp (sA σ p i x) = rNMp σ := by
  have e : rgk (rR σ 7) → 1000 * (rR σ 7 + 1) + 10 ≠ p ∧ 1000 * (rR σ 7 + 1) + 11 ≠ p := by rintro (h | h | h) <;> rw [h] <;> omega
  unfold rNMp rNM
  simp only [rR_sA, rF_sA]
  refine propext ⟨fun h => ⟨h.1, ?_⟩, fun h => ⟨h.1, ?_⟩⟩
  · have h2 := h.2; simp only [A_sA_ne (e h.1).1, A_sA_ne (e h.1).2] at h2; exact h2
  · simp only [A_sA_ne (e h.1).1, A_sA_ne (e h.1).2]; exact h.2
theorem rNMp_sT {σ : rS} {k f : Nat} {i x : Int} (hf : f < 6) : rNMp (sT σ k f i x) = rNMp σ := rNMp_A (by omega)
theorem rNMp_sT0 {σ : rS} {k : Nat} {i x : Int} : rNMp (sT σ k 0 i x) = rNMp σ := rNMp_sT (by decide)
theorem rNMp_sT1 {σ : rS} {k : Nat} {i x : Int} : rNMp (sT σ k 1 i x) = rNMp σ := rNMp_sT (by decide)
theorem rNMp_sT2 {σ : rS} {k : Nat} {i x : Int} : rNMp (sT σ k 2 i x) = rNMp σ := rNMp_sT (by decide)
theorem rNMp_sT3 {σ : rS} {k : Nat} {i x : Int} : rNMp (sT σ k 3 i x) = rNMp σ := rNMp_sT (by decide)
theorem rNMp_sT4 {σ : rS} {k : Nat} {i x : Int} : rNMp (sT σ k 4 i x) = rNMp σ := rNMp_sT (by decide)
theorem rNMp_sT5 {σ : rS} {k : Nat} {i x : Int} : rNMp (sT σ k 5 i x) = rNMp σ := rNMp_sT (by decide)
theorem rNMp_a1 {σ : rS} {i x : Int} : rNMp (sA σ 1001 i x) = rNMp σ := rNMp_A (Or.inl (by decide))
theorem rNMp_a2 {σ : rS} {i x : Int} : rNMp (sA σ 1002 i x) = rNMp σ := rNMp_A (Or.inl (by decide))
theorem rNMp_a5 {σ : rS} {i x : Int} : rNMp (sA σ 1005 i x) = rNMp σ := rNMp_A (Or.inl (by decide))
theorem rNMp_a20 {σ : rS} {i x : Int} : rNMp (sA σ 1020 i x) = rNMp σ := rNMp_A (Or.inl (by decide))
theorem rNMp_a26 {σ : rS} {i x : Int} : rNMp (sA σ 1026 i x) = rNMp σ := rNMp_A (Or.inl (by decide))
theorem rNMp_a27 {σ : rS} {i x : Int} : rNMp (sA σ 1027 i x) = rNMp σ := rNMp_A (Or.inl (by decide))
theorem rNMp_a34 {σ : rS} {i x : Int} : rNMp (sA σ 1034 i x) = rNMp σ := rNMp_A (Or.inl (by decide))
theorem rNMp_a35 {σ : rS} {i x : Int} : rNMp (sA σ 1035 i x) = rNMp σ := rNMp_A (Or.inl (by decide))
theorem rNMp_a36 {σ : rS} {i x : Int} : rNMp (sA σ 1036 i x) = rNMp σ := rNMp_A (Or.inl (by decide))
theorem rNMp_a37 {σ : rS} {i x : Int} : rNMp (sA σ 1037 i x) = rNMp σ := rNMp_A (Or.inl (by decide))
theorem rNMp_a40 {σ : rS} {i x : Int} : rNMp (sA σ 1040 i x) = rNMp σ := rNMp_A (Or.inl (by decide))
theorem rNMp_a46 {σ : rS} {i x : Int} : rNMp (sA σ 1046 i x) = rNMp σ := rNMp_A (Or.inl (by decide))
theorem rNMp_a47 {σ : rS} {i x : Int} : rNMp (sA σ 1047 i x) = rNMp σ := rNMp_A (Or.inl (by decide))
theorem rNMp_a48 {σ : rS} {i x : Int} : rNMp (sA σ 1048 i x) = rNMp σ := rNMp_A (Or.inl (by decide))
theorem rNMp_a49 {σ : rS} {i x : Int} : rNMp (sA σ 1049 i x) = rNMp σ := rNMp_A (Or.inl (by decide))
theorem rNMp_a50 {σ : rS} {i x : Int} : rNMp (sA σ 1050 i x) = rNMp σ := rNMp_A (Or.inl (by decide))
theorem rNMp_a51 {σ : rS} {i x : Int} : rNMp (sA σ 1051 i x) = rNMp σ := rNMp_A (Or.inl (by decide))
theorem rNMp_a52 {σ : rS} {i x : Int} : rNMp (sA σ 1052 i x) = rNMp σ := rNMp_A (Or.inl (by decide))
theorem rNMp_a53 {σ : rS} {i x : Int} : rNMp (sA σ 1053 i x) = rNMp σ := rNMp_A (Or.inl (by decide))
theorem rNMp_a54 {σ : rS} {i x : Int} : rNMp (sA σ 1054 i x) = rNMp σ := rNMp_A (Or.inl (by decide))
theorem rNMp_a55 {σ : rS} {i x : Int} : rNMp (sA σ 1055 i x) = rNMp σ := rNMp_A (Or.inl (by decide))
theorem rNMp_a56 {σ : rS} {i x : Int} : rNMp (sA σ 1056 i x) = rNMp σ := rNMp_A (Or.inl (by decide))
theorem rNMp_a57 {σ : rS} {i x : Int} : rNMp (sA σ 1057 i x) = rNMp σ := rNMp_A (Or.inl (by decide))
theorem rNMp_a58 {σ : rS} {i x : Int} : rNMp (sA σ 1058 i x) = rNMp σ := rNMp_A (Or.inl (by decide))
theorem rNMp_a59 {σ : rS} {i x : Int} : rNMp (sA σ 1059 i x) = rNMp σ := rNMp_A (Or.inl (by decide))
theorem rNMp_a61 {σ : rS} {i x : Int} : rNMp (sA σ 1061 i x) = rNMp σ := rNMp_A (Or.inl (by decide))
theorem rNMp_a62 {σ : rS} {i x : Int} : rNMp (sA σ 1062 i x) = rNMp σ := rNMp_A (Or.inl (by decide))
theorem rNMp_a63 {σ : rS} {i x : Int} : rNMp (sA σ 1063 i x) = rNMp σ := rNMp_A (Or.inl (by decide))
theorem rNMp_a64 {σ : rS} {i x : Int} : rNMp (sA σ 1064 i x) = rNMp σ := rNMp_A (Or.inl (by decide))
theorem rNMp_a69 {σ : rS} {i x : Int} : rNMp (sA σ 1069 i x) = rNMp σ := rNMp_A (Or.inl (by decide))
theorem rNMp_a75 {σ : rS} {i x : Int} : rNMp (sA σ 1075 i x) = rNMp σ := rNMp_A (Or.inl (by decide))
theorem rNMp_a76 {σ : rS} {i x : Int} : rNMp (sA σ 1076 i x) = rNMp σ := rNMp_A (Or.inl (by decide))
theorem rNMp_a77 {σ : rS} {i x : Int} : rNMp (sA σ 1077 i x) = rNMp σ := rNMp_A (Or.inl (by decide))
theorem rNMp_a78 {σ : rS} {i x : Int} : rNMp (sA σ 1078 i x) = rNMp σ := rNMp_A (Or.inl (by decide))
theorem rNMp_a79 {σ : rS} {i x : Int} : rNMp (sA σ 1079 i x) = rNMp σ := rNMp_A (Or.inl (by decide))
theorem rNMp_a84 {σ : rS} {i x : Int} : rNMp (sA σ 1084 i x) = rNMp σ := rNMp_A (Or.inl (by decide))
theorem rNMp_a85 {σ : rS} {i x : Int} : rNMp (sA σ 1085 i x) = rNMp σ := rNMp_A (Or.inl (by decide))
theorem rNMp_a86 {σ : rS} {i x : Int} : rNMp (sA σ 1086 i x) = rNMp σ := rNMp_A (Or.inl (by decide))
theorem rNMp_a87 {σ : rS} {i x : Int} : rNMp (sA σ 1087 i x) = rNMp σ := rNMp_A (Or.inl (by decide))
theorem rNMp_a89 {σ : rS} {i x : Int} : rNMp (sA σ 1089 i x) = rNMp σ := rNMp_A (Or.inl (by decide))
theorem rNMp_a90 {σ : rS} {i x : Int} : rNMp (sA σ 1090 i x) = rNMp σ := rNMp_A (Or.inl (by decide))
theorem rNMp_a91 {σ : rS} {i x : Int} : rNMp (sA σ 1091 i x) = rNMp σ := rNMp_A (Or.inl (by decide))
theorem rNMp_a93 {σ : rS} {i x : Int} : rNMp (sA σ 1093 i x) = rNMp σ := rNMp_A (Or.inl (by decide))
theorem rNMp_a102 {σ : rS} {i x : Int} : rNMp (sA σ 1102 i x) = rNMp σ := rNMp_A (Or.inl (by decide))
theorem rNMp_a105 {σ : rS} {i x : Int} : rNMp (sA σ 1105 i x) = rNMp σ := rNMp_A (Or.inl (by decide))
theorem rNMp_a106 {σ : rS} {i x : Int} : rNMp (sA σ 1106 i x) = rNMp σ := rNMp_A (Or.inl (by decide))
theorem rNMp_a107 {σ : rS} {i x : Int} : rNMp (sA σ 1107 i x) = rNMp σ := rNMp_A (Or.inl (by decide))
theorem rNMp_a108 {σ : rS} {i x : Int} : rNMp (sA σ 1108 i x) = rNMp σ := rNMp_A (Or.inl (by decide))
theorem rNMp_a109 {σ : rS} {i x : Int} : rNMp (sA σ 1109 i x) = rNMp σ := rNMp_A (Or.inl (by decide))
theorem rNMp_a110 {σ : rS} {i x : Int} : rNMp (sA σ 1110 i x) = rNMp σ := rNMp_A (Or.inl (by decide))
theorem rNMp_a111 {σ : rS} {i x : Int} : rNMp (sA σ 1111 i x) = rNMp σ := rNMp_A (Or.inl (by decide))
theorem rNMp_a114 {σ : rS} {i x : Int} : rNMp (sA σ 1114 i x) = rNMp σ := rNMp_A (Or.inl (by decide))
theorem rNMp_a115 {σ : rS} {i x : Int} : rNMp (sA σ 1115 i x) = rNMp σ := rNMp_A (Or.inl (by decide))
theorem rNMp_a116 {σ : rS} {i x : Int} : rNMp (sA σ 1116 i x) = rNMp σ := rNMp_A (Or.inl (by decide))
theorem rNMp_a117 {σ : rS} {i x : Int} : rNMp (sA σ 1117 i x) = rNMp σ := rNMp_A (Or.inl (by decide))
theorem rNMp_a120 {σ : rS} {i x : Int} : rNMp (sA σ 1120 i x) = rNMp σ := rNMp_A (Or.inl (by decide))
theorem rNMp_a121 {σ : rS} {i x : Int} : rNMp (sA σ 1121 i x) = rNMp σ := rNMp_A (Or.inl (by decide))
theorem rNMp_a124 {σ : rS} {i x : Int} : rNMp (sA σ 1124 i x) = rNMp σ := rNMp_A (Or.inl (by decide))
theorem rNMp_a125 {σ : rS} {i x : Int} : rNMp (sA σ 1125 i x) = rNMp σ := rNMp_A (Or.inl (by decide))
theorem rNMp_a126 {σ : rS} {i x : Int} : rNMp (sA σ 1126 i x) = rNMp σ := rNMp_A (Or.inl (by decide))
theorem rNMp_a127 {σ : rS} {i x : Int} : rNMp (sA σ 1127 i x) = rNMp σ := rNMp_A (Or.inl (by decide))
theorem rNMp_a128 {σ : rS} {i x : Int} : rNMp (sA σ 1128 i x) = rNMp σ := rNMp_A (Or.inl (by decide))
theorem rNMp_a129 {σ : rS} {i x : Int} : rNMp (sA σ 1129 i x) = rNMp σ := rNMp_A (Or.inl (by decide))
theorem rNMp_a136 {σ : rS} {i x : Int} : rNMp (sA σ 1136 i x) = rNMp σ := rNMp_A (Or.inl (by decide))
theorem rNMp_a138 {σ : rS} {i x : Int} : rNMp (sA σ 1138 i x) = rNMp σ := rNMp_A (Or.inl (by decide))
theorem PNp_sF {σ : rS} {f : Nat} {x : Int} : PNp (sF σ 0 f x) = PNp σ := by
  have e : ∀ g, rgk (rR σ 7) → rF (sF σ 0 f x) (rR σ 7) g = rF σ (rR σ 7) g := fun g hk => F_sF_nq (rk_n0 hk)
  unfold PNp
  simp only [rR_sF, rA_sF]
  refine propext ⟨fun h => ⟨h.1, ?_⟩, fun h => ⟨h.1, ?_⟩⟩
  · have h2 := h.2; simp only [e _ h.1] at h2; exact h2
  · simp only [e _ h.1]; exact h.2
theorem PNp_A {σ : rS} {p : Nat} {i x : Int} (hp : p < 2000 ∨ p % 1000 ≠ 31) : PNp (sA σ p i x) = PNp σ := by
  have e : rgk (rR σ 7) → 1000 * (rR σ 7 + 1) + 31 ≠ p := by rintro (h | h | h) <;> rw [h] <;> omega
  unfold PNp
  simp only [rR_sA, rF_sA]
  refine propext ⟨fun h => ⟨h.1, ?_⟩, fun h => ⟨h.1, ?_⟩⟩
  · have h2 := h.2; simp only [A_sA_ne (e h.1)] at h2; exact h2
  · simp only [A_sA_ne (e h.1)]; exact h.2
theorem PNp_sT {σ : rS} {k f : Nat} {i x : Int} (hf : f < 6) : PNp (sT σ k f i x) = PNp σ := PNp_A (by omega)
theorem PNp_sT0 {σ : rS} {k : Nat} {i x : Int} : PNp (sT σ k 0 i x) = PNp σ := PNp_sT (by decide)
theorem PNp_sT1 {σ : rS} {k : Nat} {i x : Int} : PNp (sT σ k 1 i x) = PNp σ := PNp_sT (by decide)
theorem PNp_sT2 {σ : rS} {k : Nat} {i x : Int} : PNp (sT σ k 2 i x) = PNp σ := PNp_sT (by decide)
theorem PNp_sT3 {σ : rS} {k : Nat} {i x : Int} : PNp (sT σ k 3 i x) = PNp σ := PNp_sT (by decide)
theorem PNp_sT4 {σ : rS} {k : Nat} {i x : Int} : PNp (sT σ k 4 i x) = PNp σ := PNp_sT (by decide)
theorem PNp_sT5 {σ : rS} {k : Nat} {i x : Int} : PNp (sT σ k 5 i x) = PNp σ := PNp_sT (by decide)
theorem PNp_a1 {σ : rS} {i x : Int} : PNp (sA σ 1001 i x) = PNp σ := PNp_A (Or.inl (by decide))
theorem PNp_a2 {σ : rS} {i x : Int} : PNp (sA σ 1002 i x) = PNp σ := PNp_A (Or.inl (by decide))
theorem PNp_a5 {σ : rS} {i x : Int} : PNp (sA σ 1005 i x) = PNp σ := PNp_A (Or.inl (by decide))
theorem PNp_a20 {σ : rS} {i x : Int} : PNp (sA σ 1020 i x) = PNp σ := PNp_A (Or.inl (by decide))
theorem PNp_a26 {σ : rS} {i x : Int} : PNp (sA σ 1026 i x) = PNp σ := PNp_A (Or.inl (by decide))
theorem PNp_a27 {σ : rS} {i x : Int} : PNp (sA σ 1027 i x) = PNp σ := PNp_A (Or.inl (by decide))
theorem PNp_a34 {σ : rS} {i x : Int} : PNp (sA σ 1034 i x) = PNp σ := PNp_A (Or.inl (by decide))
theorem PNp_a35 {σ : rS} {i x : Int} : PNp (sA σ 1035 i x) = PNp σ := PNp_A (Or.inl (by decide))
theorem PNp_a36 {σ : rS} {i x : Int} : PNp (sA σ 1036 i x) = PNp σ := PNp_A (Or.inl (by decide))
theorem PNp_a37 {σ : rS} {i x : Int} : PNp (sA σ 1037 i x) = PNp σ := PNp_A (Or.inl (by decide))
theorem PNp_a40 {σ : rS} {i x : Int} : PNp (sA σ 1040 i x) = PNp σ := PNp_A (Or.inl (by decide))
theorem PNp_a46 {σ : rS} {i x : Int} : PNp (sA σ 1046 i x) = PNp σ := PNp_A (Or.inl (by decide))
theorem PNp_a47 {σ : rS} {i x : Int} : PNp (sA σ 1047 i x) = PNp σ := PNp_A (Or.inl (by decide))
theorem PNp_a48 {σ : rS} {i x : Int} : PNp (sA σ 1048 i x) = PNp σ := PNp_A (Or.inl (by decide))
theorem PNp_a49 {σ : rS} {i x : Int} : PNp (sA σ 1049 i x) = PNp σ := PNp_A (Or.inl (by decide))
theorem PNp_a50 {σ : rS} {i x : Int} : PNp (sA σ 1050 i x) = PNp σ := PNp_A (Or.inl (by decide))
theorem PNp_a51 {σ : rS} {i x : Int} : PNp (sA σ 1051 i x) = PNp σ := PNp_A (Or.inl (by decide))
theorem PNp_a52 {σ : rS} {i x : Int} : PNp (sA σ 1052 i x) = PNp σ := PNp_A (Or.inl (by decide))
theorem PNp_a53 {σ : rS} {i x : Int} : PNp (sA σ 1053 i x) = PNp σ := PNp_A (Or.inl (by decide))
theorem PNp_a54 {σ : rS} {i x : Int} : PNp (sA σ 1054 i x) = PNp σ := PNp_A (Or.inl (by decide))
theorem PNp_a55 {σ : rS} {i x : Int} : PNp (sA σ 1055 i x) = PNp σ := PNp_A (Or.inl (by decide))
theorem PNp_a56 {σ : rS} {i x : Int} : PNp (sA σ 1056 i x) = PNp σ := PNp_A (Or.inl (by decide))
theorem PNp_a57 {σ : rS} {i x : Int} : PNp (sA σ 1057 i x) = PNp σ := PNp_A (Or.inl (by decide))
theorem PNp_a58 {σ : rS} {i x : Int} : PNp (sA σ 1058 i x) = PNp σ := PNp_A (Or.inl (by decide))
theorem PNp_a59 {σ : rS} {i x : Int} : PNp (sA σ 1059 i x) = PNp σ := PNp_A (Or.inl (by decide))
theorem PNp_a61 {σ : rS} {i x : Int} : PNp (sA σ 1061 i x) = PNp σ := PNp_A (Or.inl (by decide))
theorem PNp_a62 {σ : rS} {i x : Int} : PNp (sA σ 1062 i x) = PNp σ := PNp_A (Or.inl (by decide))
theorem PNp_a63 {σ : rS} {i x : Int} : PNp (sA σ 1063 i x) = PNp σ := PNp_A (Or.inl (by decide))
theorem PNp_a64 {σ : rS} {i x : Int} : PNp (sA σ 1064 i x) = PNp σ := PNp_A (Or.inl (by decide))
theorem PNp_a69 {σ : rS} {i x : Int} : PNp (sA σ 1069 i x) = PNp σ := PNp_A (Or.inl (by decide))
theorem PNp_a75 {σ : rS} {i x : Int} : PNp (sA σ 1075 i x) = PNp σ := PNp_A (Or.inl (by decide))
theorem PNp_a76 {σ : rS} {i x : Int} : PNp (sA σ 1076 i x) = PNp σ := PNp_A (Or.inl (by decide))
theorem PNp_a77 {σ : rS} {i x : Int} : PNp (sA σ 1077 i x) = PNp σ := PNp_A (Or.inl (by decide))
theorem PNp_a78 {σ : rS} {i x : Int} : PNp (sA σ 1078 i x) = PNp σ := PNp_A (Or.inl (by decide))
theorem PNp_a79 {σ : rS} {i x : Int} : PNp (sA σ 1079 i x) = PNp σ := PNp_A (Or.inl (by decide))
theorem PNp_a84 {σ : rS} {i x : Int} : PNp (sA σ 1084 i x) = PNp σ := PNp_A (Or.inl (by decide))
theorem PNp_a85 {σ : rS} {i x : Int} : PNp (sA σ 1085 i x) = PNp σ := PNp_A (Or.inl (by decide))
theorem PNp_a86 {σ : rS} {i x : Int} : PNp (sA σ 1086 i x) = PNp σ := PNp_A (Or.inl (by decide))
theorem PNp_a87 {σ : rS} {i x : Int} : PNp (sA σ 1087 i x) = PNp σ := PNp_A (Or.inl (by decide))
theorem PNp_a89 {σ : rS} {i x : Int} : PNp (sA σ 1089 i x) = PNp σ := PNp_A (Or.inl (by decide))
theorem PNp_a90 {σ : rS} {i x : Int} : PNp (sA σ 1090 i x) = PNp σ := PNp_A (Or.inl (by decide))
theorem PNp_a91 {σ : rS} {i x : Int} : PNp (sA σ 1091 i x) = PNp σ := PNp_A (Or.inl (by decide))
theorem PNp_a93 {σ : rS} {i x : Int} : PNp (sA σ 1093 i x) = PNp σ := PNp_A (Or.inl (by decide))
theorem PNp_a102 {σ : rS} {i x : Int} : PNp (sA σ 1102 i x) = PNp σ := PNp_A (Or.inl (by decide))
theorem PNp_a105 {σ : rS} {i x : Int} : PNp (sA σ 1105 i x) = PNp σ := PNp_A (Or.inl (by decide))
theorem PNp_a106 {σ : rS} {i x : Int} : PNp (sA σ 1106 i x) = PNp σ := PNp_A (Or.inl (by decide))
theorem PNp_a107 {σ : rS} {i x : Int} : PNp (sA σ 1107 i x) = PNp σ := PNp_A (Or.inl (by decide))
theorem PNp_a108 {σ : rS} {i x : Int} : PNp (sA σ 1108 i x) = PNp σ := PNp_A (Or.inl (by decide))
theorem PNp_a109 {σ : rS} {i x : Int} : PNp (sA σ 1109 i x) = PNp σ := PNp_A (Or.inl (by decide))
theorem PNp_a110 {σ : rS} {i x : Int} : PNp (sA σ 1110 i x) = PNp σ := PNp_A (Or.inl (by decide))
theorem PNp_a111 {σ : rS} {i x : Int} : PNp (sA σ 1111 i x) = PNp σ := PNp_A (Or.inl (by decide))
theorem PNp_a114 {σ : rS} {i x : Int} : PNp (sA σ 1114 i x) = PNp σ := PNp_A (Or.inl (by decide))
theorem PNp_a115 {σ : rS} {i x : Int} : PNp (sA σ 1115 i x) = PNp σ := PNp_A (Or.inl (by decide))
theorem PNp_a116 {σ : rS} {i x : Int} : PNp (sA σ 1116 i x) = PNp σ := PNp_A (Or.inl (by decide))
theorem PNp_a117 {σ : rS} {i x : Int} : PNp (sA σ 1117 i x) = PNp σ := PNp_A (Or.inl (by decide))
theorem PNp_a120 {σ : rS} {i x : Int} : PNp (sA σ 1120 i x) = PNp σ := PNp_A (Or.inl (by decide))
theorem PNp_a121 {σ : rS} {i x : Int} : PNp (sA σ 1121 i x) = PNp σ := PNp_A (Or.inl (by decide))
theorem PNp_a124 {σ : rS} {i x : Int} : PNp (sA σ 1124 i x) = PNp σ := PNp_A (Or.inl (by decide))
theorem PNp_a125 {σ : rS} {i x : Int} : PNp (sA σ 1125 i x) = PNp σ := PNp_A (Or.inl (by decide))
theorem PNp_a126 {σ : rS} {i x : Int} : PNp (sA σ 1126 i x) = PNp σ := PNp_A (Or.inl (by decide))
theorem PNp_a127 {σ : rS} {i x : Int} : PNp (sA σ 1127 i x) = PNp σ := PNp_A (Or.inl (by decide))
theorem PNp_a128 {σ : rS} {i x : Int} : PNp (sA σ 1128 i x) = PNp σ := PNp_A (Or.inl (by decide))
theorem PNp_a129 {σ : rS} {i x : Int} : PNp (sA σ 1129 i x) = PNp σ := PNp_A (Or.inl (by decide))
theorem PNp_a136 {σ : rS} {i x : Int} : PNp (sA σ 1136 i x) = PNp σ := PNp_A (Or.inl (by decide))
theorem PNp_a138 {σ : rS} {i x : Int} : PNp (sA σ 1138 i x) = PNp σ := PNp_A (Or.inl (by decide))
def CCp (σ : rS) : Prop := TPRp σ ∧ 0 ≤ (rF σ 0 28) ∧ (rF σ 0 28) ≤ 4001 ∧ 0 ≤ (rF σ 0 14) ∧ (rF σ 0 14) ≤ 7 ∧ 0 ≤ (rF σ 0 19) ∧ -1 ≤ (rF σ 0 32) ∧ (rF σ 0 32) < 320 ∧ -1 ≤ (rF σ 0 33) ∧ (rF σ 0 33) < 320
theorem CCp.keep {a b c d e : Nat} {s t : rS} (h : rKeep a b c d e s t) (hF28 : a.testBit 28 = false) (hF30 : a.testBit 30 = false) (hF14 : a.testBit 14 = false) (hF19 : a.testBit 19 = false) (hF32 : a.testBit 32 = false) (hF33 : a.testBit 33 = false) (hA27 : c.testBit 27 = false) (hs : CCp s) : CCp t := by
  have ehF28 := h.F (f := 28) hF28
  have ehF30 := h.F (f := 30) hF30
  have ehF14 := h.F (f := 14) hF14
  have ehF19 := h.F (f := 19) hF19
  have ehF32 := h.F (f := 32) hF32
  have ehF33 := h.F (f := 33) hF33
  have ehA27 : ∀ i, rA t (1000 + 27) i = rA s (1000 + 27) i := fun i => h.A (f := 27) (by decide) hA27
  unfold CCp TPRp at *
  (try simp only [Nat.reduceAdd] at *)
  simp only [ehF28, ehF30, ehF14, ehF19, ehF32, ehF33, ehA27] at *
  exact hs
theorem CCp_sL {σ : rS} {p : Nat} {i : Int} {x : Int64} : CCp (sL σ p i x) = CCp σ := rfl
theorem CCp_sF {σ : rS} {q f : Nat} {x : Int} (h28 : f ≠ 28) (h30 : f ≠ 30) (h14 : f ≠ 14) (h19 : f ≠ 19) (h32 : f ≠ 32) (h33 : f ≠ 33) : CCp (sF σ q f x) = CCp σ := by
  simp only [CCp, TPRp, rA_sF, F_sF_ne (Ne.symm h28), F_sF_ne (Ne.symm h30), F_sF_ne (Ne.symm h14), F_sF_ne (Ne.symm h19), F_sF_ne (Ne.symm h32), F_sF_ne (Ne.symm h33)]
theorem CCp_sA {σ : rS} {p : Nat} {i x : Int} (h27 : p ≠ 1027) : CCp (sA σ p i x) = CCp σ := by
  simp only [CCp, TPRp, rF_sA, A_sA_ne (Ne.symm h27)]
theorem CCp_sF0 {σ : rS} {q : Nat} {x : Int} : CCp (sF σ q 0 x) = CCp σ := CCp_sF (by decide) (by decide) (by decide) (by decide) (by decide) (by decide)
theorem CCp_sA1 {σ : rS} {i x : Int} : CCp (sA σ 1001 i x) = CCp σ := CCp_sA (by decide)
theorem CCp_sA2 {σ : rS} {i x : Int} : CCp (sA σ 1002 i x) = CCp σ := CCp_sA (by decide)
theorem CCp_sF3 {σ : rS} {q : Nat} {x : Int} : CCp (sF σ q 3 x) = CCp σ := CCp_sF (by decide) (by decide) (by decide) (by decide) (by decide) (by decide)
theorem CCp_sA5 {σ : rS} {i x : Int} : CCp (sA σ 1005 i x) = CCp σ := CCp_sA (by decide)
theorem CCp_sF10 {σ : rS} {q : Nat} {x : Int} : CCp (sF σ q 10 x) = CCp σ := CCp_sF (by decide) (by decide) (by decide) (by decide) (by decide) (by decide)
theorem CCp_sF11 {σ : rS} {q : Nat} {x : Int} : CCp (sF σ q 11 x) = CCp σ := CCp_sF (by decide) (by decide) (by decide) (by decide) (by decide) (by decide)
theorem CCp_sF12 {σ : rS} {q : Nat} {x : Int} : CCp (sF σ q 12 x) = CCp σ := CCp_sF (by decide) (by decide) (by decide) (by decide) (by decide) (by decide)
theorem CCp_sF13 {σ : rS} {q : Nat} {x : Int} : CCp (sF σ q 13 x) = CCp σ := CCp_sF (by decide) (by decide) (by decide) (by decide) (by decide) (by decide)
theorem CCp_sF16 {σ : rS} {q : Nat} {x : Int} : CCp (sF σ q 16 x) = CCp σ := CCp_sF (by decide) (by decide) (by decide) (by decide) (by decide) (by decide)
theorem CCp_sF17 {σ : rS} {q : Nat} {x : Int} : CCp (sF σ q 17 x) = CCp σ := CCp_sF (by decide) (by decide) (by decide) (by decide) (by decide) (by decide)
theorem CCp_sF18 {σ : rS} {q : Nat} {x : Int} : CCp (sF σ q 18 x) = CCp σ := CCp_sF (by decide) (by decide) (by decide) (by decide) (by decide) (by decide)
theorem CCp_sA20 {σ : rS} {i x : Int} : CCp (sA σ 1020 i x) = CCp σ := CCp_sA (by decide)
theorem CCp_sF21 {σ : rS} {q : Nat} {x : Int} : CCp (sF σ q 21 x) = CCp σ := CCp_sF (by decide) (by decide) (by decide) (by decide) (by decide) (by decide)
theorem CCp_sF22 {σ : rS} {q : Nat} {x : Int} : CCp (sF σ q 22 x) = CCp σ := CCp_sF (by decide) (by decide) (by decide) (by decide) (by decide) (by decide)
theorem CCp_sF23 {σ : rS} {q : Nat} {x : Int} : CCp (sF σ q 23 x) = CCp σ := CCp_sF (by decide) (by decide) (by decide) (by decide) (by decide) (by decide)
theorem CCp_sF24 {σ : rS} {q : Nat} {x : Int} : CCp (sF σ q 24 x) = CCp σ := CCp_sF (by decide) (by decide) (by decide) (by decide) (by decide) (by decide)
theorem CCp_sF25 {σ : rS} {q : Nat} {x : Int} : CCp (sF σ q 25 x) = CCp σ := CCp_sF (by decide) (by decide) (by decide) (by decide) (by decide) (by decide)
theorem CCp_sA26 {σ : rS} {i x : Int} : CCp (sA σ 1026 i x) = CCp σ := CCp_sA (by decide)
theorem CCp_sF29 {σ : rS} {q : Nat} {x : Int} : CCp (sF σ q 29 x) = CCp σ := CCp_sF (by decide) (by decide) (by decide) (by decide) (by decide) (by decide)
theorem CCp_sF31 {σ : rS} {q : Nat} {x : Int} : CCp (sF σ q 31 x) = CCp σ := CCp_sF (by decide) (by decide) (by decide) (by decide) (by decide) (by decide)
theorem CCp_sA34 {σ : rS} {i x : Int} : CCp (sA σ 1034 i x) = CCp σ := CCp_sA (by decide)
theorem CCp_sA35 {σ : rS} {i x : Int} : CCp (sA σ 1035 i x) = CCp σ := CCp_sA (by decide)
theorem CCp_sA36 {σ : rS} {i x : Int} : CCp (sA σ 1036 i x) = CCp σ := CCp_sA (by decide)
theorem CCp_sA37 {σ : rS} {i x : Int} : CCp (sA σ 1037 i x) = CCp σ := CCp_sA (by decide)
theorem CCp_sF38 {σ : rS} {q : Nat} {x : Int} : CCp (sF σ q 38 x) = CCp σ := CCp_sF (by decide) (by decide) (by decide) (by decide) (by decide) (by decide)
theorem CCp_sF39 {σ : rS} {q : Nat} {x : Int} : CCp (sF σ q 39 x) = CCp σ := CCp_sF (by decide) (by decide) (by decide) (by decide) (by decide) (by decide)
theorem CCp_sA40 {σ : rS} {i x : Int} : CCp (sA σ 1040 i x) = CCp σ := CCp_sA (by decide)
theorem CCp_sF41 {σ : rS} {q : Nat} {x : Int} : CCp (sF σ q 41 x) = CCp σ := CCp_sF (by decide) (by decide) (by decide) (by decide) (by decide) (by decide)
theorem CCp_sF42 {σ : rS} {q : Nat} {x : Int} : CCp (sF σ q 42 x) = CCp σ := CCp_sF (by decide) (by decide) (by decide) (by decide) (by decide) (by decide)
theorem CCp_sF43 {σ : rS} {q : Nat} {x : Int} : CCp (sF σ q 43 x) = CCp σ := CCp_sF (by decide) (by decide) (by decide) (by decide) (by decide) (by decide)
theorem CCp_sF44 {σ : rS} {q : Nat} {x : Int} : CCp (sF σ q 44 x) = CCp σ := CCp_sF (by decide) (by decide) (by decide) (by decide) (by decide) (by decide)
theorem CCp_sF45 {σ : rS} {q : Nat} {x : Int} : CCp (sF σ q 45 x) = CCp σ := CCp_sF (by decide) (by decide) (by decide) (by decide) (by decide) (by decide)
theorem CCp_sA46 {σ : rS} {i x : Int} : CCp (sA σ 1046 i x) = CCp σ := CCp_sA (by decide)
theorem CCp_sA47 {σ : rS} {i x : Int} : CCp (sA σ 1047 i x) = CCp σ := CCp_sA (by decide)
theorem CCp_sA48 {σ : rS} {i x : Int} : CCp (sA σ 1048 i x) = CCp σ := CCp_sA (by decide)
theorem CCp_sA49 {σ : rS} {i x : Int} : CCp (sA σ 1049 i x) = CCp σ := CCp_sA (by decide)
theorem CCp_sA50 {σ : rS} {i x : Int} : CCp (sA σ 1050 i x) = CCp σ := CCp_sA (by decide)
theorem CCp_sA51 {σ : rS} {i x : Int} : CCp (sA σ 1051 i x) = CCp σ := CCp_sA (by decide)
theorem CCp_sA52 {σ : rS} {i x : Int} : CCp (sA σ 1052 i x) = CCp σ := CCp_sA (by decide)
theorem CCp_sA53 {σ : rS} {i x : Int} : CCp (sA σ 1053 i x) = CCp σ := CCp_sA (by decide)
theorem CCp_sA54 {σ : rS} {i x : Int} : CCp (sA σ 1054 i x) = CCp σ := CCp_sA (by decide)
theorem CCp_sA55 {σ : rS} {i x : Int} : CCp (sA σ 1055 i x) = CCp σ := CCp_sA (by decide)
theorem CCp_sA56 {σ : rS} {i x : Int} : CCp (sA σ 1056 i x) = CCp σ := CCp_sA (by decide)
theorem CCp_sA57 {σ : rS} {i x : Int} : CCp (sA σ 1057 i x) = CCp σ := CCp_sA (by decide)
theorem CCp_sA58 {σ : rS} {i x : Int} : CCp (sA σ 1058 i x) = CCp σ := CCp_sA (by decide)
theorem CCp_sA59 {σ : rS} {i x : Int} : CCp (sA σ 1059 i x) = CCp σ := CCp_sA (by decide)
theorem CCp_sF60 {σ : rS} {q : Nat} {x : Int} : CCp (sF σ q 60 x) = CCp σ := CCp_sF (by decide) (by decide) (by decide) (by decide) (by decide) (by decide)
theorem CCp_sA61 {σ : rS} {i x : Int} : CCp (sA σ 1061 i x) = CCp σ := CCp_sA (by decide)
theorem CCp_sA62 {σ : rS} {i x : Int} : CCp (sA σ 1062 i x) = CCp σ := CCp_sA (by decide)
theorem CCp_sA63 {σ : rS} {i x : Int} : CCp (sA σ 1063 i x) = CCp σ := CCp_sA (by decide)
theorem CCp_sA64 {σ : rS} {i x : Int} : CCp (sA σ 1064 i x) = CCp σ := CCp_sA (by decide)
theorem CCp_sF65 {σ : rS} {q : Nat} {x : Int} : CCp (sF σ q 65 x) = CCp σ := CCp_sF (by decide) (by decide) (by decide) (by decide) (by decide) (by decide)
theorem CCp_sF66 {σ : rS} {q : Nat} {x : Int} : CCp (sF σ q 66 x) = CCp σ := CCp_sF (by decide) (by decide) (by decide) (by decide) (by decide) (by decide)
theorem CCp_sF67 {σ : rS} {q : Nat} {x : Int} : CCp (sF σ q 67 x) = CCp σ := CCp_sF (by decide) (by decide) (by decide) (by decide) (by decide) (by decide)
theorem CCp_sF68 {σ : rS} {q : Nat} {x : Int} : CCp (sF σ q 68 x) = CCp σ := CCp_sF (by decide) (by decide) (by decide) (by decide) (by decide) (by decide)
theorem CCp_sA69 {σ : rS} {i x : Int} : CCp (sA σ 1069 i x) = CCp σ := CCp_sA (by decide)
theorem CCp_sF70 {σ : rS} {q : Nat} {x : Int} : CCp (sF σ q 70 x) = CCp σ := CCp_sF (by decide) (by decide) (by decide) (by decide) (by decide) (by decide)
theorem CCp_sF71 {σ : rS} {q : Nat} {x : Int} : CCp (sF σ q 71 x) = CCp σ := CCp_sF (by decide) (by decide) (by decide) (by decide) (by decide) (by decide)
theorem CCp_sF72 {σ : rS} {q : Nat} {x : Int} : CCp (sF σ q 72 x) = CCp σ := CCp_sF (by decide) (by decide) (by decide) (by decide) (by decide) (by decide)
theorem CCp_sF73 {σ : rS} {q : Nat} {x : Int} : CCp (sF σ q 73 x) = CCp σ := CCp_sF (by decide) (by decide) (by decide) (by decide) (by decide) (by decide)
theorem CCp_sF74 {σ : rS} {q : Nat} {x : Int} : CCp (sF σ q 74 x) = CCp σ := CCp_sF (by decide) (by decide) (by decide) (by decide) (by decide) (by decide)
theorem CCp_sA75 {σ : rS} {i x : Int} : CCp (sA σ 1075 i x) = CCp σ := CCp_sA (by decide)
theorem CCp_sA76 {σ : rS} {i x : Int} : CCp (sA σ 1076 i x) = CCp σ := CCp_sA (by decide)
theorem CCp_sA77 {σ : rS} {i x : Int} : CCp (sA σ 1077 i x) = CCp σ := CCp_sA (by decide)
theorem CCp_sA78 {σ : rS} {i x : Int} : CCp (sA σ 1078 i x) = CCp σ := CCp_sA (by decide)
theorem CCp_sA79 {σ : rS} {i x : Int} : CCp (sA σ 1079 i x) = CCp σ := CCp_sA (by decide)
theorem CCp_sF80 {σ : rS} {q : Nat} {x : Int} : CCp (sF σ q 80 x) = CCp σ := CCp_sF (by decide) (by decide) (by decide) (by decide) (by decide) (by decide)
theorem CCp_sF81 {σ : rS} {q : Nat} {x : Int} : CCp (sF σ q 81 x) = CCp σ := CCp_sF (by decide) (by decide) (by decide) (by decide) (by decide) (by decide)
theorem CCp_sF82 {σ : rS} {q : Nat} {x : Int} : CCp (sF σ q 82 x) = CCp σ := CCp_sF (by decide) (by decide) (by decide) (by decide) (by decide) (by decide)
theorem CCp_sF83 {σ : rS} {q : Nat} {x : Int} : CCp (sF σ q 83 x) = CCp σ := CCp_sF (by decide) (by decide) (by decide) (by decide) (by decide) (by decide)
theorem CCp_sA84 {σ : rS} {i x : Int} : CCp (sA σ 1084 i x) = CCp σ := CCp_sA (by decide)
theorem CCp_sA85 {σ : rS} {i x : Int} : CCp (sA σ 1085 i x) = CCp σ := CCp_sA (by decide)
theorem CCp_sA86 {σ : rS} {i x : Int} : CCp (sA σ 1086 i x) = CCp σ := CCp_sA (by decide)
theorem CCp_sA87 {σ : rS} {i x : Int} : CCp (sA σ 1087 i x) = CCp σ := CCp_sA (by decide)
theorem CCp_sF88 {σ : rS} {q : Nat} {x : Int} : CCp (sF σ q 88 x) = CCp σ := CCp_sF (by decide) (by decide) (by decide) (by decide) (by decide) (by decide)
theorem CCp_sA89 {σ : rS} {i x : Int} : CCp (sA σ 1089 i x) = CCp σ := CCp_sA (by decide)
theorem CCp_sA90 {σ : rS} {i x : Int} : CCp (sA σ 1090 i x) = CCp σ := CCp_sA (by decide)
theorem CCp_sA91 {σ : rS} {i x : Int} : CCp (sA σ 1091 i x) = CCp σ := CCp_sA (by decide)
theorem CCp_sF92 {σ : rS} {q : Nat} {x : Int} : CCp (sF σ q 92 x) = CCp σ := CCp_sF (by decide) (by decide) (by decide) (by decide) (by decide) (by decide)
theorem CCp_sA93 {σ : rS} {i x : Int} : CCp (sA σ 1093 i x) = CCp σ := CCp_sA (by decide)
theorem CCp_sF94 {σ : rS} {q : Nat} {x : Int} : CCp (sF σ q 94 x) = CCp σ := CCp_sF (by decide) (by decide) (by decide) (by decide) (by decide) (by decide)
theorem CCp_sF96 {σ : rS} {q : Nat} {x : Int} : CCp (sF σ q 96 x) = CCp σ := CCp_sF (by decide) (by decide) (by decide) (by decide) (by decide) (by decide)
theorem CCp_sF97 {σ : rS} {q : Nat} {x : Int} : CCp (sF σ q 97 x) = CCp σ := CCp_sF (by decide) (by decide) (by decide) (by decide) (by decide) (by decide)
theorem CCp_sF98 {σ : rS} {q : Nat} {x : Int} : CCp (sF σ q 98 x) = CCp σ := CCp_sF (by decide) (by decide) (by decide) (by decide) (by decide) (by decide)
theorem CCp_sF99 {σ : rS} {q : Nat} {x : Int} : CCp (sF σ q 99 x) = CCp σ := CCp_sF (by decide) (by decide) (by decide) (by decide) (by decide) (by decide)
theorem CCp_sF100 {σ : rS} {q : Nat} {x : Int} : CCp (sF σ q 100 x) = CCp σ := CCp_sF (by decide) (by decide) (by decide) (by decide) (by decide) (by decide)
theorem CCp_sF101 {σ : rS} {q : Nat} {x : Int} : CCp (sF σ q 101 x) = CCp σ := CCp_sF (by decide) (by decide) (by decide) (by decide) (by decide) (by decide)
theorem CCp_sA102 {σ : rS} {i x : Int} : CCp (sA σ 1102 i x) = CCp σ := CCp_sA (by decide)
theorem CCp_sF103 {σ : rS} {q : Nat} {x : Int} : CCp (sF σ q 103 x) = CCp σ := CCp_sF (by decide) (by decide) (by decide) (by decide) (by decide) (by decide)
theorem CCp_sF104 {σ : rS} {q : Nat} {x : Int} : CCp (sF σ q 104 x) = CCp σ := CCp_sF (by decide) (by decide) (by decide) (by decide) (by decide) (by decide)
theorem CCp_sA105 {σ : rS} {i x : Int} : CCp (sA σ 1105 i x) = CCp σ := CCp_sA (by decide)
theorem CCp_sA106 {σ : rS} {i x : Int} : CCp (sA σ 1106 i x) = CCp σ := CCp_sA (by decide)
theorem CCp_sA107 {σ : rS} {i x : Int} : CCp (sA σ 1107 i x) = CCp σ := CCp_sA (by decide)
theorem CCp_sA108 {σ : rS} {i x : Int} : CCp (sA σ 1108 i x) = CCp σ := CCp_sA (by decide)
theorem CCp_sA109 {σ : rS} {i x : Int} : CCp (sA σ 1109 i x) = CCp σ := CCp_sA (by decide)
theorem CCp_sA110 {σ : rS} {i x : Int} : CCp (sA σ 1110 i x) = CCp σ := CCp_sA (by decide)
theorem CCp_sA111 {σ : rS} {i x : Int} : CCp (sA σ 1111 i x) = CCp σ := CCp_sA (by decide)
theorem CCp_sF112 {σ : rS} {q : Nat} {x : Int} : CCp (sF σ q 112 x) = CCp σ := CCp_sF (by decide) (by decide) (by decide) (by decide) (by decide) (by decide)
theorem CCp_sF113 {σ : rS} {q : Nat} {x : Int} : CCp (sF σ q 113 x) = CCp σ := CCp_sF (by decide) (by decide) (by decide) (by decide) (by decide) (by decide)
theorem CCp_sA114 {σ : rS} {i x : Int} : CCp (sA σ 1114 i x) = CCp σ := CCp_sA (by decide)
theorem CCp_sA115 {σ : rS} {i x : Int} : CCp (sA σ 1115 i x) = CCp σ := CCp_sA (by decide)
theorem CCp_sA116 {σ : rS} {i x : Int} : CCp (sA σ 1116 i x) = CCp σ := CCp_sA (by decide)
theorem CCp_sA117 {σ : rS} {i x : Int} : CCp (sA σ 1117 i x) = CCp σ := CCp_sA (by decide)
theorem CCp_sF118 {σ : rS} {q : Nat} {x : Int} : CCp (sF σ q 118 x) = CCp σ := CCp_sF (by decide) (by decide) (by decide) (by decide) (by decide) (by decide)
theorem CCp_sF119 {σ : rS} {q : Nat} {x : Int} : CCp (sF σ q 119 x) = CCp σ := CCp_sF (by decide) (by decide) (by decide) (by decide) (by decide) (by decide)
theorem CCp_sA120 {σ : rS} {i x : Int} : CCp (sA σ 1120 i x) = CCp σ := CCp_sA (by decide)
theorem CCp_sA121 {σ : rS} {i x : Int} : CCp (sA σ 1121 i x) = CCp σ := CCp_sA (by decide)
theorem CCp_sF122 {σ : rS} {q : Nat} {x : Int} : CCp (sF σ q 122 x) = CCp σ := CCp_sF (by decide) (by decide) (by decide) (by decide) (by decide) (by decide)
theorem CCp_sF123 {σ : rS} {q : Nat} {x : Int} : CCp (sF σ q 123 x) = CCp σ := CCp_sF (by decide) (by decide) (by decide) (by decide) (by decide) (by decide)
theorem CCp_sA124 {σ : rS} {i x : Int} : CCp (sA σ 1124 i x) = CCp σ := CCp_sA (by decide)
theorem CCp_sA125 {σ : rS} {i x : Int} : CCp (sA σ 1125 i x) = CCp σ := CCp_sA (by decide)
theorem CCp_sA126 {σ : rS} {i x : Int} : CCp (sA σ 1126 i x) = CCp σ := CCp_sA (by decide)
theorem CCp_sA127 {σ : rS} {i x : Int} : CCp (sA σ 1127 i x) = CCp σ := CCp_sA (by decide)
theorem CCp_sA128 {σ : rS} {i x : Int} : CCp (sA σ 1128 i x) = CCp σ := CCp_sA (by decide)
theorem CCp_sA129 {σ : rS} {i x : Int} : CCp (sA σ 1129 i x) = CCp σ := CCp_sA (by decide)
theorem CCp_sF135 {σ : rS} {q : Nat} {x : Int} : CCp (sF σ q 135 x) = CCp σ := CCp_sF (by decide) (by decide) (by decide) (by decide) (by decide) (by decide)
theorem CCp_sA136 {σ : rS} {i x : Int} : CCp (sA σ 1136 i x) = CCp σ := CCp_sA (by decide)
theorem CCp_sF137 {σ : rS} {q : Nat} {x : Int} : CCp (sF σ q 137 x) = CCp σ := CCp_sF (by decide) (by decide) (by decide) (by decide) (by decide) (by decide)
theorem CCp_sA138 {σ : rS} {i x : Int} : CCp (sA σ 1138 i x) = CCp σ := CCp_sA (by decide)
theorem CCp_gA0 {σ : rS} {k : Nat} {i x : Int} : CCp (sA σ (1000 * (k + 1) + 0) i x) = CCp σ := CCp_sA (by omega)
theorem CCp_gA1 {σ : rS} {k : Nat} {i x : Int} : CCp (sA σ (1000 * (k + 1) + 1) i x) = CCp σ := CCp_sA (by omega)
theorem CCp_gA2 {σ : rS} {k : Nat} {i x : Int} : CCp (sA σ (1000 * (k + 1) + 2) i x) = CCp σ := CCp_sA (by omega)
theorem CCp_gA3 {σ : rS} {k : Nat} {i x : Int} : CCp (sA σ (1000 * (k + 1) + 3) i x) = CCp σ := CCp_sA (by omega)
theorem CCp_gA4 {σ : rS} {k : Nat} {i x : Int} : CCp (sA σ (1000 * (k + 1) + 4) i x) = CCp σ := CCp_sA (by omega)
theorem CCp_gA5 {σ : rS} {k : Nat} {i x : Int} : CCp (sA σ (1000 * (k + 1) + 5) i x) = CCp σ := CCp_sA (by omega)
theorem CCp_gA6 {σ : rS} {k : Nat} {i x : Int} : CCp (sA σ (1000 * (k + 1) + 6) i x) = CCp σ := CCp_sA (by omega)
theorem CCp_sF7 {σ : rS} {q : Nat} {x : Int} : CCp (sF σ q 7 x) = CCp σ := CCp_sF (by decide) (by decide) (by decide) (by decide) (by decide) (by decide)
theorem CCp_gA8 {σ : rS} {k : Nat} {i x : Int} : CCp (sA σ (1000 * (k + 1) + 8) i x) = CCp σ := CCp_sA (by omega)
theorem CCp_sF9 {σ : rS} {q : Nat} {x : Int} : CCp (sF σ q 9 x) = CCp σ := CCp_sF (by decide) (by decide) (by decide) (by decide) (by decide) (by decide)
theorem CCp_gA10 {σ : rS} {k : Nat} {i x : Int} : CCp (sA σ (1000 * (k + 1) + 10) i x) = CCp σ := CCp_sA (by omega)
theorem CCp_gA11 {σ : rS} {k : Nat} {i x : Int} : CCp (sA σ (1000 * (k + 1) + 11) i x) = CCp σ := CCp_sA (by omega)
theorem CCp_gA15 {σ : rS} {k : Nat} {i x : Int} : CCp (sA σ (1000 * (k + 1) + 15) i x) = CCp σ := CCp_sA (by omega)
theorem CCp_gA16 {σ : rS} {k : Nat} {i x : Int} : CCp (sA σ (1000 * (k + 1) + 16) i x) = CCp σ := CCp_sA (by omega)
theorem CCp_gA17 {σ : rS} {k : Nat} {i x : Int} : CCp (sA σ (1000 * (k + 1) + 17) i x) = CCp σ := CCp_sA (by omega)
theorem CCp_gA18 {σ : rS} {k : Nat} {i x : Int} : CCp (sA σ (1000 * (k + 1) + 18) i x) = CCp σ := CCp_sA (by omega)
theorem CCp_gA19 {σ : rS} {k : Nat} {i x : Int} : CCp (sA σ (1000 * (k + 1) + 19) i x) = CCp σ := CCp_sA (by omega)
theorem CCp_gA20 {σ : rS} {k : Nat} {i x : Int} : CCp (sA σ (1000 * (k + 1) + 20) i x) = CCp σ := CCp_sA (by omega)
theorem CCp_gA21 {σ : rS} {k : Nat} {i x : Int} : CCp (sA σ (1000 * (k + 1) + 21) i x) = CCp σ := CCp_sA (by omega)
theorem CCp_gA22 {σ : rS} {k : Nat} {i x : Int} : CCp (sA σ (1000 * (k + 1) + 22) i x) = CCp σ := CCp_sA (by omega)
theorem CCp_gA23 {σ : rS} {k : Nat} {i x : Int} : CCp (sA σ (1000 * (k + 1) + 23) i x) = CCp σ := CCp_sA (by omega)
theorem CCp_gA24 {σ : rS} {k : Nat} {i x : Int} : CCp (sA σ (1000 * (k + 1) + 24) i x) = CCp σ := CCp_sA (by omega)
theorem CCp_gA25 {σ : rS} {k : Nat} {i x : Int} : CCp (sA σ (1000 * (k + 1) + 25) i x) = CCp σ := CCp_sA (by omega)
theorem CCp_gA26 {σ : rS} {k : Nat} {i x : Int} : CCp (sA σ (1000 * (k + 1) + 26) i x) = CCp σ := CCp_sA (by omega)
theorem CCp_gA29 {σ : rS} {k : Nat} {i x : Int} : CCp (sA σ (1000 * (k + 1) + 29) i x) = CCp σ := CCp_sA (by omega)
theorem CCp_gA30 {σ : rS} {k : Nat} {i x : Int} : CCp (sA σ (1000 * (k + 1) + 30) i x) = CCp σ := CCp_sA (by omega)
theorem CCp_gA31 {σ : rS} {k : Nat} {i x : Int} : CCp (sA σ (1000 * (k + 1) + 31) i x) = CCp σ := CCp_sA (by omega)
theorem CCp_gA33 {σ : rS} {k : Nat} {i x : Int} : CCp (sA σ (1000 * (k + 1) + 33) i x) = CCp σ := CCp_sA (by omega)
theorem CCp_gA34 {σ : rS} {k : Nat} {i x : Int} : CCp (sA σ (1000 * (k + 1) + 34) i x) = CCp σ := CCp_sA (by omega)
theorem CCp_gA35 {σ : rS} {k : Nat} {i x : Int} : CCp (sA σ (1000 * (k + 1) + 35) i x) = CCp σ := CCp_sA (by omega)
theorem CCp_gA36 {σ : rS} {k : Nat} {i x : Int} : CCp (sA σ (1000 * (k + 1) + 36) i x) = CCp σ := CCp_sA (by omega)
theorem CCp_gA37 {σ : rS} {k : Nat} {i x : Int} : CCp (sA σ (1000 * (k + 1) + 37) i x) = CCp σ := CCp_sA (by omega)
theorem CCp_sT {σ : rS} {k f : Nat} {i x : Int} (hk : rgk k) : CCp (sT σ k f i x) = CCp σ := by
  have h1 : 1 ≤ k := by rcases hk with rfl | rfl | rfl <;> decide
  exact CCp_sA (by omega)
def NBP (σ : rS) (gg : Nat) (B : Int) : Prop := 0 ≤ (rF σ 0 29) ∧ (rF σ 0 29) ≤ (rF σ 0 28) + 3 ∧ ((rF σ 0 10) = 0 → (rF σ 0 29) ≤ (rF σ 0 28)) ∧ 0 ≤ (rF σ 0 38) ∧ 1 ≤ (rF σ gg 7) ∧ 0 ≤ (rF σ gg 38) ∧ 0 ≤ (rF σ gg 32) ∧ 0 ≤ (rF σ gg 9) ∧ 0 ≤ (rF σ gg 12) ∧ (rF σ 0 38) + ((rF σ 0 28) + 3 - (rF σ 0 29)) ≤ 8990 ∧ (rF σ gg 7) + 3 * (rF σ 0 38) + 4 * ((rF σ 0 28) + 3 - (rF σ 0 29)) ≤ B ∧ (rF σ gg 9) + (rF σ 0 38) + ((rF σ 0 28) + 3 - (rF σ 0 29)) ≤ 59900 ∧ (rF σ gg 12) + ((rF σ 0 28) + 3 - (rF σ 0 29)) ≤ 16900 ∧ (rF σ gg 38) + ((rF σ 0 28) + 3 - (rF σ 0 29)) ≤ 12900 ∧ 2 * (rF σ gg 32) + ((rF σ 0 28) + 3 - (rF σ 0 29)) ≤ 10780 ∧ 0 ≤ (rF σ 0 39) ∧ (rF σ 0 39) ≤ 21 ∧ ((rF σ 0 10) = 0 → 0 ≤ (rF σ 0 31) ∧ (rF σ 0 31) ≤ 20 ∧ (rF σ 0 39) ≤ (rF σ 0 31))
def NBQ (σ σ' : rS) (gg : Nat) (sl sn dw dw1 dp : Int) : Prop := (rF σ 0 29) ≤ (rF σ' 0 29) ∧ (rF σ' 0 29) ≤ (rF σ 0 28) + 3 ∧ ((rF σ' 0 10) = 0 → (rF σ' 0 29) ≤ (rF σ 0 28)) ∧ ((rF σ 0 10) ≠ 0 → (rF σ' 0 10) = (rF σ 0 10)) ∧ (rF σ 0 38) ≤ (rF σ' 0 38) ∧ (rF σ' 0 38) + (rF σ 0 29) ≤ (rF σ 0 38) + (rF σ' 0 29) + dw1 ∧ (rF σ gg 7) ≤ (rF σ' gg 7) ∧ (rF σ' gg 7) + 3 * (rF σ' 0 38) + 4 * (rF σ 0 29) ≤ (rF σ gg 7) + 3 * (rF σ 0 38) + 4 * (rF σ' 0 29) + sl ∧ ((rF σ' 0 10) = 0 → (rF σ' gg 7) + 3 * (rF σ' 0 38) + 4 * (rF σ 0 29) + sn ≤ (rF σ gg 7) + 3 * (rF σ 0 38) + 4 * (rF σ' 0 29)) ∧ (rF σ gg 9) ≤ (rF σ' gg 9) ∧ (rF σ' gg 9) + (rF σ' 0 38) + (rF σ 0 29) ≤ (rF σ gg 9) + (rF σ 0 38) + (rF σ' 0 29) + dw1 ∧ (rF σ gg 12) ≤ (rF σ' gg 12) ∧ (rF σ' gg 12) + (rF σ 0 29) ≤ (rF σ gg 12) + (rF σ' 0 29) ∧ (rF σ gg 38) ≤ (rF σ' gg 38) ∧ (rF σ' gg 38) + (rF σ 0 29) ≤ (rF σ gg 38) + (rF σ' 0 29) ∧ (rF σ gg 32) ≤ (rF σ' gg 32) ∧ 2 * (rF σ' gg 32) + (rF σ 0 29) ≤ 2 * (rF σ gg 32) + (rF σ' 0 29) ∧ 0 ≤ (rF σ' 0 39) ∧ (rF σ' 0 39) ≤ 21 ∧ ((rF σ' 0 10) = 0 → (rF σ' 0 31) = dp ∧ (rF σ' 0 39) = (rF σ 0 39) ∧ (rF σ' 0 38) = (rF σ 0 38) + dw)
def pre_X14_readMember (σ : rS) (gg : Nat) : Prop := rR σ 7 = gg ∧ rgk gg ∧ CCp σ ∧ NBP σ gg 49900 ∧ rNMp σ ∧ WNp σ ∧ PNp σ
def post_X14_readMember (σ : rS) (gg : Nat) (r : Int) (σ' : rS) : Prop := NBQ σ σ' gg 1 2 0 0 (rF σ 0 31) ∧ rNMp σ' ∧ WNp σ' ∧ PNp σ' ∧ ((rF σ' 0 10) = 0 → RG σ σ' gg 0) ∧ 0 ≤ r ∧ r < (rF σ' gg 7) ∧ ((rF σ' 0 10) = 0 → TS σ' gg 1 r 0 (rF σ 0 31) 1 (rF σ gg 7) (rF σ' gg 7) 0 0 (rF σ gg 32) (rF σ' gg 32)) ∧ ((rF σ' 0 10) = 0 → (rF σ gg 7) ≤ r) ∧ ((rF σ' 0 10) = 0 → tr σ' gg 5 r = 0) ∧ ((rF σ' 0 10) = 0 → tr σ' gg 3 r = 0)
def rk_X14_readMember (σ : rS) (gg : Nat) : Nat := (if (rF σ 0 10) = 0 then 16 * (21 - (rF σ 0 31)).toNat else 0) + 6
def inv_X14_readMember_45 (σ : rS) (gg : Nat)  (s : rS) (it : Int) (last : Int) : Prop := (rF σ 0 10) = 0 ∧ NBQ σ s gg 1 2 0 0 (rF σ 0 31) ∧ rNMp s ∧ WNp s ∧ PNp s ∧ ((rF s 0 10) = 0 → RG σ s gg 0) ∧ 0 < it ∧ it < (rF s gg 7) ∧ 0 ≤ last ∧ last < (rF s gg 7) ∧ ((rF s 0 10) = 0 → it = (rF σ gg 7)) ∧ ((rF s 0 10) = 0 → MI s gg it last (rF σ 0 31) (rF σ gg 32) (rF s gg 7) (rF s gg 32))
def mu_X14_readMember_45 (σ : rS) (gg : Nat) (s : rS) (it : Int) (last : Int) : Nat := (1 + (4004 - (rF s 0 29)).toNat)
def pre_X14_readArg (σ : rS) (gg : Nat) : Prop := rR σ 7 = gg ∧ rgk gg ∧ CCp σ ∧ NBP σ gg 49900 ∧ rNMp σ ∧ WNp σ ∧ PNp σ
def post_X14_readArg (σ : rS) (gg : Nat) (r : Int) (σ' : rS) : Prop := NBQ σ σ' gg 1 2 0 0 (rF σ 0 31) ∧ rNMp σ' ∧ WNp σ' ∧ PNp σ' ∧ ((rF σ' 0 10) = 0 → RG σ σ' gg 0) ∧ 0 ≤ r ∧ r < (rF σ' gg 7) ∧ ((rF σ' 0 10) = 0 → TS σ' gg 1 r 0 ((rF σ 0 31) + 1) 1 (rF σ gg 7) (rF σ' gg 7) 0 0 (rF σ gg 32) (rF σ' gg 32)) ∧ ((rF σ' 0 10) = 0 → (rF σ gg 7) ≤ r) ∧ ((rF σ' 0 10) = 0 → tr σ' gg 5 r = 0)
def rk_X14_readArg (σ : rS) (gg : Nat) : Nat := (if (rF σ 0 10) = 0 then 16 * (21 - (rF σ 0 31)).toNat else 0) + 1
def inv_X14_readArg_55 (σ : rS) (gg : Nat)  (s : rS) (it : Int) (last : Int) : Prop := (rF σ 0 10) = 0 ∧ NBQ σ s gg 1 2 0 0 ((rF σ 0 31) + 1) ∧ rNMp s ∧ WNp s ∧ PNp s ∧ ((rF s 0 10) = 0 → RG σ s gg 0) ∧ 0 < it ∧ it < (rF s gg 7) ∧ 0 ≤ last ∧ last < (rF s gg 7) ∧ ((rF s 0 10) = 0 → IG s gg it last ((rF σ 0 31) + 1) (rF σ gg 7) (rF σ gg 32) (rF s gg 7) (rF s gg 32))
def mu_X14_readArg_55 (σ : rS) (gg : Nat) (s : rS) (it : Int) (last : Int) : Nat := (1 + (4004 - (rF s 0 29)).toNat)
def pre_X14_readPrimary (σ : rS) (gg : Nat) : Prop := rR σ 7 = gg ∧ rgk gg ∧ CCp σ ∧ NBP σ gg 49901 ∧ rNMp σ ∧ WNp σ ∧ PNp σ ∧ (rF σ 0 10) = 0
def post_X14_readPrimary (σ : rS) (gg : Nat) (r : Int) (σ' : rS) : Prop := NBQ σ σ' gg 0 3 0 0 (rF σ 0 31) ∧ rNMp σ' ∧ WNp σ' ∧ PNp σ' ∧ ((rF σ' 0 10) = 0 → RG σ σ' gg 0) ∧ 0 ≤ r ∧ r < (rF σ' gg 7) ∧ ((rF σ' 0 10) = 0 → TS σ' gg 2 r 0 (rF σ 0 31) 0 (rF σ gg 7) (rF σ' gg 7) 0 0 (rF σ gg 32) (rF σ' gg 32)) ∧ ((rF σ' 0 10) = 0 → (rF σ gg 7) ≤ r) ∧ ((rF σ' 0 10) = 0 → tr σ' gg 5 r = 0)
def rk_X14_readPrimary (σ : rS) (gg : Nat) : Nat := (if (rF σ 0 10) = 0 then 16 * (21 - (rF σ 0 31)).toNat else 0) + 5
def VC_X14_readMember (n : Nat) (σ : rS) (gg : Nat) (Q : Int → rS → Prop) : Prop := rgk (rR σ 7) ∧ pre_X14_blanks σ ∧ (∀ (s1 : rS), rWF s1 → (rNMp σ → rNMp s1) → (TPRp σ → TPRp s1) → (WNp σ → WNp s1) → (PNp σ → PNp s1) → (CCp σ → CCp s1) → rR s1 7 = rR σ 7 → rF s1 0 10 = rF σ 0 10 → rF s1 0 14 = rF σ 0 14 → rF s1 0 19 = rF σ 0 19 → rF s1 0 28 = rF σ 0 28 → rF s1 0 30 = rF σ 0 30 → rF s1 0 31 = rF σ 0 31 → rF s1 0 32 = rF σ 0 32 → rF s1 0 33 = rF σ 0 33 → rF s1 0 38 = rF σ 0 38 → rF s1 0 39 = rF σ 0 39 → rF s1 0 41 = rF σ 0 41 → (∀ i, rA s1 1026 i = rA σ 1026 i) → rF s1 (rR σ 7) 7 = rF σ (rR σ 7) 7 → rF s1 (rR σ 7) 9 = rF σ (rR σ 7) 9 → rF s1 (rR σ 7) 12 = rF σ (rR σ 7) 12 → rF s1 (rR σ 7) 32 = rF σ (rR σ 7) 32 → rF s1 (rR σ 7) 38 = rF σ (rR σ 7) 38 → RG σ s1 (rR σ 7) 0 → post_X14_blanks σ s1 → (rng (rF s1 0 10) → (((rF s1 0 10) = 0 → pre_X14_place s1 ∧ (∀ (v19 : Int), rng v19 → post_X14_place s1 v19 → pre_X14_node_t s1 41 0 0 v19 gg ∧ (∀ (v22 : Int) (s22 : rS), rng v22 → rWF s22 → (rNMp s1 → rNMp s22) → (TPRp s1 → TPRp s22) → (WNp s1 → WNp s22) → (PNp s1 → PNp s22) → (CCp s1 → CCp s22) → rR s22 7 = rR s1 7 → rF s22 0 10 = rF s1 0 10 → rF s22 0 14 = rF s1 0 14 → rF s22 0 19 = rF s1 0 19 → rF s22 0 28 = rF s1 0 28 → rF s22 0 29 = rF s1 0 29 → rF s22 0 30 = rF s1 0 30 → rF s22 0 31 = rF s1 0 31 → rF s22 0 32 = rF s1 0 32 → rF s22 0 33 = rF s1 0 33 → rF s22 0 38 = rF s1 0 38 → rF s22 0 39 = rF s1 0 39 → rF s22 0 41 = rF s1 0 41 → (∀ i, rA s22 1026 i = rA s1 1026 i) → rF s22 (rR σ 7) 9 = rF s1 (rR σ 7) 9 → rF s22 (rR σ 7) 12 = rF s1 (rR σ 7) 12 → rF s22 (rR σ 7) 32 = rF s1 (rR σ 7) 32 → rF s22 (rR σ 7) 38 = rF s1 (rR σ 7) 38 → post_X14_node_t s1 41 0 0 v19 gg v22 s22 → pre_X14_readPrimary s22 gg ∧ rk_X14_readPrimary s22 gg ≤ n ∧ (∀ (v35 : Int) (s35 : rS), rng v35 → rWF s35 → (TPRp s22 → TPRp s35) → (CCp s22 → CCp s35) → rR s35 7 = rR s22 7 → rF s35 0 14 = rF s22 0 14 → rF s35 0 19 = rF s22 0 19 → rF s35 0 28 = rF s22 0 28 → rF s35 0 30 = rF s22 0 30 → rF s35 0 32 = rF s22 0 32 → rF s35 0 33 = rF s22 0 33 → (∀ i, rA s35 1026 i = rA s22 1026 i) → post_X14_readPrimary s22 gg v35 s35 → (0 ≤ v22 ∧ v22 < 50000) ∧ pre_X14_blanks (sT s35 (rR σ 7) 1 v22 v35) ∧ (∀ (s42 : rS), rWF s42 → (rNMp (sT s35 (rR σ 7) 1 v22 v35) → rNMp s42) → (TPRp (sT s35 (rR σ 7) 1 v22 v35) → TPRp s42) → (WNp (sT s35 (rR σ 7) 1 v22 v35) → WNp s42) → (PNp (sT s35 (rR σ 7) 1 v22 v35) → PNp s42) → (CCp (sT s35 (rR σ 7) 1 v22 v35) → CCp s42) → rR s42 7 = rR (sT s35 (rR σ 7) 1 v22 v35) 7 → rF s42 0 10 = rF (sT s35 (rR σ 7) 1 v22 v35) 0 10 → rF s42 0 14 = rF (sT s35 (rR σ 7) 1 v22 v35) 0 14 → rF s42 0 19 = rF (sT s35 (rR σ 7) 1 v22 v35) 0 19 → rF s42 0 28 = rF (sT s35 (rR σ 7) 1 v22 v35) 0 28 → rF s42 0 30 = rF (sT s35 (rR σ 7) 1 v22 v35) 0 30 → rF s42 0 31 = rF (sT s35 (rR σ 7) 1 v22 v35) 0 31 → rF s42 0 32 = rF (sT s35 (rR σ 7) 1 v22 v35) 0 32 → rF s42 0 33 = rF (sT s35 (rR σ 7) 1 v22 v35) 0 33 → rF s42 0 38 = rF (sT s35 (rR σ 7) 1 v22 v35) 0 38 → rF s42 0 39 = rF (sT s35 (rR σ 7) 1 v22 v35) 0 39 → rF s42 0 41 = rF (sT s35 (rR σ 7) 1 v22 v35) 0 41 → (∀ i, rA s42 1026 i = rA (sT s35 (rR σ 7) 1 v22 v35) 1026 i) → rF s42 (rR σ 7) 7 = rF (sT s35 (rR σ 7) 1 v22 v35) (rR σ 7) 7 → rF s42 (rR σ 7) 9 = rF (sT s35 (rR σ 7) 1 v22 v35) (rR σ 7) 9 → rF s42 (rR σ 7) 12 = rF (sT s35 (rR σ 7) 1 v22 v35) (rR σ 7) 12 → rF s42 (rR σ 7) 32 = rF (sT s35 (rR σ 7) 1 v22 v35) (rR σ 7) 32 → rF s42 (rR σ 7) 38 = rF (sT s35 (rR σ 7) 1 v22 v35) (rR σ 7) 38 → RG (sT s35 (rR σ 7) 1 v22 v35) s42 (rR σ 7) 0 → post_X14_blanks (sT s35 (rR σ 7) 1 v22 v35) s42 → (inv_X14_readMember_45 σ gg s42 v22 0)))))) ∧ (¬ (rF s1 0 10) = 0 → Q 0 s1))))
def VC_X14_readMember_45 (n : Nat) (σ : rS) (gg : Nat) (Q : Int → rS → Prop) : Prop := ∀ (s45 : rS) (y45_1 : Int) (y45_2 : Int), rWF s45 → rng y45_1 → rng y45_2 → (TPRp σ → TPRp s45) → (CCp σ → CCp s45) → rR s45 7 = rR σ 7 → rF s45 0 14 = rF σ 0 14 → rF s45 0 19 = rF σ 0 19 → rF s45 0 28 = rF σ 0 28 → rF s45 0 30 = rF σ 0 30 → rF s45 0 32 = rF σ 0 32 → rF s45 0 33 = rF σ 0 33 → (∀ i, rA s45 1026 i = rA σ 1026 i) → inv_X14_readMember_45 σ gg s45 y45_1 y45_2 → (pre_X14_here s45 ∧ (∀ (v46 : Int), rng v46 → post_X14_here s45 v46 → ((¬ v46 = 46 → Q y45_1 s45) ∧ (v46 = 46 → (rng (rF s45 0 10) → ((¬ (rF s45 0 10) = 0 → Q y45_1 s45) ∧ ((rF s45 0 10) = 0 → pre_X14_place s45 ∧ (∀ (v62 : Int), rng v62 → post_X14_place s45 v62 → (rng (rF s45 0 29) → rng ((rF s45 0 29) + 1) ∧ pre_X14_blanks (sF s45 0 29 ((rF s45 0 29) + 1)) ∧ (∀ (s77 : rS), rWF s77 → (rNMp (sF s45 0 29 ((rF s45 0 29) + 1)) → rNMp s77) → (TPRp (sF s45 0 29 ((rF s45 0 29) + 1)) → TPRp s77) → (WNp (sF s45 0 29 ((rF s45 0 29) + 1)) → WNp s77) → (PNp (sF s45 0 29 ((rF s45 0 29) + 1)) → PNp s77) → (CCp (sF s45 0 29 ((rF s45 0 29) + 1)) → CCp s77) → rR s77 7 = rR (sF s45 0 29 ((rF s45 0 29) + 1)) 7 → rF s77 0 10 = rF (sF s45 0 29 ((rF s45 0 29) + 1)) 0 10 → rF s77 0 14 = rF (sF s45 0 29 ((rF s45 0 29) + 1)) 0 14 → rF s77 0 19 = rF (sF s45 0 29 ((rF s45 0 29) + 1)) 0 19 → rF s77 0 28 = rF (sF s45 0 29 ((rF s45 0 29) + 1)) 0 28 → rF s77 0 30 = rF (sF s45 0 29 ((rF s45 0 29) + 1)) 0 30 → rF s77 0 31 = rF (sF s45 0 29 ((rF s45 0 29) + 1)) 0 31 → rF s77 0 32 = rF (sF s45 0 29 ((rF s45 0 29) + 1)) 0 32 → rF s77 0 33 = rF (sF s45 0 29 ((rF s45 0 29) + 1)) 0 33 → rF s77 0 38 = rF (sF s45 0 29 ((rF s45 0 29) + 1)) 0 38 → rF s77 0 39 = rF (sF s45 0 29 ((rF s45 0 29) + 1)) 0 39 → rF s77 0 41 = rF (sF s45 0 29 ((rF s45 0 29) + 1)) 0 41 → (∀ i, rA s77 1026 i = rA (sF s45 0 29 ((rF s45 0 29) + 1)) 1026 i) → rF s77 (rR σ 7) 7 = rF (sF s45 0 29 ((rF s45 0 29) + 1)) (rR σ 7) 7 → rF s77 (rR σ 7) 9 = rF (sF s45 0 29 ((rF s45 0 29) + 1)) (rR σ 7) 9 → rF s77 (rR σ 7) 12 = rF (sF s45 0 29 ((rF s45 0 29) + 1)) (rR σ 7) 12 → rF s77 (rR σ 7) 32 = rF (sF s45 0 29 ((rF s45 0 29) + 1)) (rR σ 7) 32 → rF s77 (rR σ 7) 38 = rF (sF s45 0 29 ((rF s45 0 29) + 1)) (rR σ 7) 38 → RG (sF s45 0 29 ((rF s45 0 29) + 1)) s77 (rR σ 7) 0 → post_X14_blanks (sF s45 0 29 ((rF s45 0 29) + 1)) s77 → pre_X14_here s77 ∧ (∀ (v81 : Int), rng v81 → post_X14_here s77 v81 → ((¬ v81 = 40 → pre_X14_tagName s77 ∧ (∀ (v137 : Int) (s137 : rS), rng v137 → rWF s137 → (TPRp s77 → TPRp s137) → (WNp s77 → WNp s137) → (PNp s77 → PNp s137) → (CCp s77 → CCp s137) → rR s137 7 = rR s77 7 → rF s137 0 14 = rF s77 0 14 → rF s137 0 19 = rF s77 0 19 → rF s137 0 28 = rF s77 0 28 → rF s137 0 30 = rF s77 0 30 → rF s137 0 31 = rF s77 0 31 → rF s137 0 32 = rF s77 0 32 → rF s137 0 33 = rF s77 0 33 → rF s137 0 38 = rF s77 0 38 → rF s137 0 39 = rF s77 0 39 → (∀ i, rA s137 1026 i = rA s77 1026 i) → rF s137 (rR σ 7) 7 = rF s77 (rR σ 7) 7 → rF s137 (rR σ 7) 32 = rF s77 (rR σ 7) 32 → rF s137 (rR σ 7) 38 = rF s77 (rR σ 7) 38 → RG s77 s137 (rR σ 7) 0 → post_X14_tagName s77 v137 s137 → pre_X14_node_t s137 42 v137 0 v62 gg ∧ (∀ (v142 : Int) (s142 : rS), rng v142 → rWF s142 → (rNMp s137 → rNMp s142) → (TPRp s137 → TPRp s142) → (WNp s137 → WNp s142) → (PNp s137 → PNp s142) → (CCp s137 → CCp s142) → rR s142 7 = rR s137 7 → rF s142 0 10 = rF s137 0 10 → rF s142 0 14 = rF s137 0 14 → rF s142 0 19 = rF s137 0 19 → rF s142 0 28 = rF s137 0 28 → rF s142 0 29 = rF s137 0 29 → rF s142 0 30 = rF s137 0 30 → rF s142 0 31 = rF s137 0 31 → rF s142 0 32 = rF s137 0 32 → rF s142 0 33 = rF s137 0 33 → rF s142 0 38 = rF s137 0 38 → rF s142 0 39 = rF s137 0 39 → rF s142 0 41 = rF s137 0 41 → (∀ i, rA s142 1026 i = rA s137 1026 i) → rF s142 (rR σ 7) 9 = rF s137 (rR σ 7) 9 → rF s142 (rR σ 7) 12 = rF s137 (rR σ 7) 12 → rF s142 (rR σ 7) 32 = rF s137 (rR σ 7) 32 → rF s142 (rR σ 7) 38 = rF s137 (rR σ 7) 38 → post_X14_node_t s137 42 v137 0 v62 gg v142 s142 → ((¬ y45_2 = 0 → (0 ≤ y45_2 ∧ y45_2 < 50000) ∧ pre_X14_blanks (sT s142 (rR σ 7) 5 y45_2 v142) ∧ (∀ (s180 : rS), rWF s180 → (rNMp (sT s142 (rR σ 7) 5 y45_2 v142) → rNMp s180) → (TPRp (sT s142 (rR σ 7) 5 y45_2 v142) → TPRp s180) → (WNp (sT s142 (rR σ 7) 5 y45_2 v142) → WNp s180) → (PNp (sT s142 (rR σ 7) 5 y45_2 v142) → PNp s180) → (CCp (sT s142 (rR σ 7) 5 y45_2 v142) → CCp s180) → rR s180 7 = rR (sT s142 (rR σ 7) 5 y45_2 v142) 7 → rF s180 0 10 = rF (sT s142 (rR σ 7) 5 y45_2 v142) 0 10 → rF s180 0 14 = rF (sT s142 (rR σ 7) 5 y45_2 v142) 0 14 → rF s180 0 19 = rF (sT s142 (rR σ 7) 5 y45_2 v142) 0 19 → rF s180 0 28 = rF (sT s142 (rR σ 7) 5 y45_2 v142) 0 28 → rF s180 0 30 = rF (sT s142 (rR σ 7) 5 y45_2 v142) 0 30 → rF s180 0 31 = rF (sT s142 (rR σ 7) 5 y45_2 v142) 0 31 → rF s180 0 32 = rF (sT s142 (rR σ 7) 5 y45_2 v142) 0 32 → rF s180 0 33 = rF (sT s142 (rR σ 7) 5 y45_2 v142) 0 33 → rF s180 0 38 = rF (sT s142 (rR σ 7) 5 y45_2 v142) 0 38 → rF s180 0 39 = rF (sT s142 (rR σ 7) 5 y45_2 v142) 0 39 → rF s180 0 41 = rF (sT s142 (rR σ 7) 5 y45_2 v142) 0 41 → (∀ i, rA s180 1026 i = rA (sT s142 (rR σ 7) 5 y45_2 v142) 1026 i) → rF s180 (rR σ 7) 7 = rF (sT s142 (rR σ 7) 5 y45_2 v142) (rR σ 7) 7 → rF s180 (rR σ 7) 9 = rF (sT s142 (rR σ 7) 5 y45_2 v142) (rR σ 7) 9 → rF s180 (rR σ 7) 12 = rF (sT s142 (rR σ 7) 5 y45_2 v142) (rR σ 7) 12 → rF s180 (rR σ 7) 32 = rF (sT s142 (rR σ 7) 5 y45_2 v142) (rR σ 7) 32 → rF s180 (rR σ 7) 38 = rF (sT s142 (rR σ 7) 5 y45_2 v142) (rR σ 7) 38 → RG (sT s142 (rR σ 7) 5 y45_2 v142) s180 (rR σ 7) 0 → post_X14_blanks (sT s142 (rR σ 7) 5 y45_2 v142) s180 → (inv_X14_readMember_45 σ gg s180 y45_1 v142 ∧ (mu_X14_readMember_45 σ gg s180 y45_1 v142) < (mu_X14_readMember_45 σ gg s45 y45_1 y45_2)))) ∧ (y45_2 = 0 → (0 ≤ y45_1 ∧ y45_1 < 50000) ∧ pre_X14_blanks (sT s142 (rR σ 7) 2 y45_1 v142) ∧ (∀ (s180 : rS), rWF s180 → (rNMp (sT s142 (rR σ 7) 2 y45_1 v142) → rNMp s180) → (TPRp (sT s142 (rR σ 7) 2 y45_1 v142) → TPRp s180) → (WNp (sT s142 (rR σ 7) 2 y45_1 v142) → WNp s180) → (PNp (sT s142 (rR σ 7) 2 y45_1 v142) → PNp s180) → (CCp (sT s142 (rR σ 7) 2 y45_1 v142) → CCp s180) → rR s180 7 = rR (sT s142 (rR σ 7) 2 y45_1 v142) 7 → rF s180 0 10 = rF (sT s142 (rR σ 7) 2 y45_1 v142) 0 10 → rF s180 0 14 = rF (sT s142 (rR σ 7) 2 y45_1 v142) 0 14 → rF s180 0 19 = rF (sT s142 (rR σ 7) 2 y45_1 v142) 0 19 → rF s180 0 28 = rF (sT s142 (rR σ 7) 2 y45_1 v142) 0 28 → rF s180 0 30 = rF (sT s142 (rR σ 7) 2 y45_1 v142) 0 30 → rF s180 0 31 = rF (sT s142 (rR σ 7) 2 y45_1 v142) 0 31 → rF s180 0 32 = rF (sT s142 (rR σ 7) 2 y45_1 v142) 0 32 → rF s180 0 33 = rF (sT s142 (rR σ 7) 2 y45_1 v142) 0 33 → rF s180 0 38 = rF (sT s142 (rR σ 7) 2 y45_1 v142) 0 38 → rF s180 0 39 = rF (sT s142 (rR σ 7) 2 y45_1 v142) 0 39 → rF s180 0 41 = rF (sT s142 (rR σ 7) 2 y45_1 v142) 0 41 → (∀ i, rA s180 1026 i = rA (sT s142 (rR σ 7) 2 y45_1 v142) 1026 i) → rF s180 (rR σ 7) 7 = rF (sT s142 (rR σ 7) 2 y45_1 v142) (rR σ 7) 7 → rF s180 (rR σ 7) 9 = rF (sT s142 (rR σ 7) 2 y45_1 v142) (rR σ 7) 9 → rF s180 (rR σ 7) 12 = rF (sT s142 (rR σ 7) 2 y45_1 v142) (rR σ 7) 12 → rF s180 (rR σ 7) 32 = rF (sT s142 (rR σ 7) 2 y45_1 v142) (rR σ 7) 32 → rF s180 (rR σ 7) 38 = rF (sT s142 (rR σ 7) 2 y45_1 v142) (rR σ 7) 38 → RG (sT s142 (rR σ 7) 2 y45_1 v142) s180 (rR σ 7) 0 → post_X14_blanks (sT s142 (rR σ 7) 2 y45_1 v142) s180 → (inv_X14_readMember_45 σ gg s180 y45_1 v142 ∧ (mu_X14_readMember_45 σ gg s180 y45_1 v142) < (mu_X14_readMember_45 σ gg s45 y45_1 y45_2)))))))) ∧ (v81 = 40 → (rng (rF s77 0 29) → rng ((rF s77 0 29) + 1) ∧ pre_X14_node_t (sF s77 0 29 ((rF s77 0 29) + 1)) 43 0 0 v62 gg ∧ (∀ (v105 : Int) (s105 : rS), rng v105 → rWF s105 → (rNMp (sF s77 0 29 ((rF s77 0 29) + 1)) → rNMp s105) → (TPRp (sF s77 0 29 ((rF s77 0 29) + 1)) → TPRp s105) → (WNp (sF s77 0 29 ((rF s77 0 29) + 1)) → WNp s105) → (PNp (sF s77 0 29 ((rF s77 0 29) + 1)) → PNp s105) → (CCp (sF s77 0 29 ((rF s77 0 29) + 1)) → CCp s105) → rR s105 7 = rR (sF s77 0 29 ((rF s77 0 29) + 1)) 7 → rF s105 0 10 = rF (sF s77 0 29 ((rF s77 0 29) + 1)) 0 10 → rF s105 0 14 = rF (sF s77 0 29 ((rF s77 0 29) + 1)) 0 14 → rF s105 0 19 = rF (sF s77 0 29 ((rF s77 0 29) + 1)) 0 19 → rF s105 0 28 = rF (sF s77 0 29 ((rF s77 0 29) + 1)) 0 28 → rF s105 0 29 = rF (sF s77 0 29 ((rF s77 0 29) + 1)) 0 29 → rF s105 0 30 = rF (sF s77 0 29 ((rF s77 0 29) + 1)) 0 30 → rF s105 0 31 = rF (sF s77 0 29 ((rF s77 0 29) + 1)) 0 31 → rF s105 0 32 = rF (sF s77 0 29 ((rF s77 0 29) + 1)) 0 32 → rF s105 0 33 = rF (sF s77 0 29 ((rF s77 0 29) + 1)) 0 33 → rF s105 0 38 = rF (sF s77 0 29 ((rF s77 0 29) + 1)) 0 38 → rF s105 0 39 = rF (sF s77 0 29 ((rF s77 0 29) + 1)) 0 39 → rF s105 0 41 = rF (sF s77 0 29 ((rF s77 0 29) + 1)) 0 41 → (∀ i, rA s105 1026 i = rA (sF s77 0 29 ((rF s77 0 29) + 1)) 1026 i) → rF s105 (rR σ 7) 9 = rF (sF s77 0 29 ((rF s77 0 29) + 1)) (rR σ 7) 9 → rF s105 (rR σ 7) 12 = rF (sF s77 0 29 ((rF s77 0 29) + 1)) (rR σ 7) 12 → rF s105 (rR σ 7) 32 = rF (sF s77 0 29 ((rF s77 0 29) + 1)) (rR σ 7) 32 → rF s105 (rR σ 7) 38 = rF (sF s77 0 29 ((rF s77 0 29) + 1)) (rR σ 7) 38 → post_X14_node_t (sF s77 0 29 ((rF s77 0 29) + 1)) 43 0 0 v62 gg v105 s105 → pre_X14_readArg s105 gg ∧ rk_X14_readArg s105 gg ≤ n ∧ (∀ (v120 : Int) (s120 : rS), rng v120 → rWF s120 → (TPRp s105 → TPRp s120) → (CCp s105 → CCp s120) → rR s120 7 = rR s105 7 → rF s120 0 14 = rF s105 0 14 → rF s120 0 19 = rF s105 0 19 → rF s120 0 28 = rF s105 0 28 → rF s120 0 30 = rF s105 0 30 → rF s120 0 32 = rF s105 0 32 → rF s120 0 33 = rF s105 0 33 → (∀ i, rA s120 1026 i = rA s105 1026 i) → post_X14_readArg s105 gg v120 s120 → (0 ≤ v105 ∧ v105 < 50000) ∧ pre_X14_need (sT s120 (rR σ 7) 1 v105 v120) 41 ∧ (∀ (s127 : rS), rWF s127 → (rNMp (sT s120 (rR σ 7) 1 v105 v120) → rNMp s127) → (TPRp (sT s120 (rR σ 7) 1 v105 v120) → TPRp s127) → (WNp (sT s120 (rR σ 7) 1 v105 v120) → WNp s127) → (PNp (sT s120 (rR σ 7) 1 v105 v120) → PNp s127) → (CCp (sT s120 (rR σ 7) 1 v105 v120) → CCp s127) → rR s127 7 = rR (sT s120 (rR σ 7) 1 v105 v120) 7 → rF s127 0 14 = rF (sT s120 (rR σ 7) 1 v105 v120) 0 14 → rF s127 0 19 = rF (sT s120 (rR σ 7) 1 v105 v120) 0 19 → rF s127 0 28 = rF (sT s120 (rR σ 7) 1 v105 v120) 0 28 → rF s127 0 30 = rF (sT s120 (rR σ 7) 1 v105 v120) 0 30 → rF s127 0 31 = rF (sT s120 (rR σ 7) 1 v105 v120) 0 31 → rF s127 0 32 = rF (sT s120 (rR σ 7) 1 v105 v120) 0 32 → rF s127 0 33 = rF (sT s120 (rR σ 7) 1 v105 v120) 0 33 → rF s127 0 38 = rF (sT s120 (rR σ 7) 1 v105 v120) 0 38 → rF s127 0 39 = rF (sT s120 (rR σ 7) 1 v105 v120) 0 39 → rF s127 0 41 = rF (sT s120 (rR σ 7) 1 v105 v120) 0 41 → (∀ i, rA s127 1026 i = rA (sT s120 (rR σ 7) 1 v105 v120) 1026 i) → rF s127 (rR σ 7) 7 = rF (sT s120 (rR σ 7) 1 v105 v120) (rR σ 7) 7 → rF s127 (rR σ 7) 9 = rF (sT s120 (rR σ 7) 1 v105 v120) (rR σ 7) 9 → rF s127 (rR σ 7) 12 = rF (sT s120 (rR σ 7) 1 v105 v120) (rR σ 7) 12 → rF s127 (rR σ 7) 32 = rF (sT s120 (rR σ 7) 1 v105 v120) (rR σ 7) 32 → rF s127 (rR σ 7) 38 = rF (sT s120 (rR σ 7) 1 v105 v120) (rR σ 7) 38 → RG (sT s120 (rR σ 7) 1 v105 v120) s127 (rR σ 7) 0 → post_X14_need (sT s120 (rR σ 7) 1 v105 v120) 41 s127 → ((¬ y45_2 = 0 → (0 ≤ y45_2 ∧ y45_2 < 50000) ∧ pre_X14_blanks (sT s127 (rR σ 7) 5 y45_2 v105) ∧ (∀ (s180 : rS), rWF s180 → (rNMp (sT s127 (rR σ 7) 5 y45_2 v105) → rNMp s180) → (TPRp (sT s127 (rR σ 7) 5 y45_2 v105) → TPRp s180) → (WNp (sT s127 (rR σ 7) 5 y45_2 v105) → WNp s180) → (PNp (sT s127 (rR σ 7) 5 y45_2 v105) → PNp s180) → (CCp (sT s127 (rR σ 7) 5 y45_2 v105) → CCp s180) → rR s180 7 = rR (sT s127 (rR σ 7) 5 y45_2 v105) 7 → rF s180 0 10 = rF (sT s127 (rR σ 7) 5 y45_2 v105) 0 10 → rF s180 0 14 = rF (sT s127 (rR σ 7) 5 y45_2 v105) 0 14 → rF s180 0 19 = rF (sT s127 (rR σ 7) 5 y45_2 v105) 0 19 → rF s180 0 28 = rF (sT s127 (rR σ 7) 5 y45_2 v105) 0 28 → rF s180 0 30 = rF (sT s127 (rR σ 7) 5 y45_2 v105) 0 30 → rF s180 0 31 = rF (sT s127 (rR σ 7) 5 y45_2 v105) 0 31 → rF s180 0 32 = rF (sT s127 (rR σ 7) 5 y45_2 v105) 0 32 → rF s180 0 33 = rF (sT s127 (rR σ 7) 5 y45_2 v105) 0 33 → rF s180 0 38 = rF (sT s127 (rR σ 7) 5 y45_2 v105) 0 38 → rF s180 0 39 = rF (sT s127 (rR σ 7) 5 y45_2 v105) 0 39 → rF s180 0 41 = rF (sT s127 (rR σ 7) 5 y45_2 v105) 0 41 → (∀ i, rA s180 1026 i = rA (sT s127 (rR σ 7) 5 y45_2 v105) 1026 i) → rF s180 (rR σ 7) 7 = rF (sT s127 (rR σ 7) 5 y45_2 v105) (rR σ 7) 7 → rF s180 (rR σ 7) 9 = rF (sT s127 (rR σ 7) 5 y45_2 v105) (rR σ 7) 9 → rF s180 (rR σ 7) 12 = rF (sT s127 (rR σ 7) 5 y45_2 v105) (rR σ 7) 12 → rF s180 (rR σ 7) 32 = rF (sT s127 (rR σ 7) 5 y45_2 v105) (rR σ 7) 32 → rF s180 (rR σ 7) 38 = rF (sT s127 (rR σ 7) 5 y45_2 v105) (rR σ 7) 38 → RG (sT s127 (rR σ 7) 5 y45_2 v105) s180 (rR σ 7) 0 → post_X14_blanks (sT s127 (rR σ 7) 5 y45_2 v105) s180 → (inv_X14_readMember_45 σ gg s180 y45_1 v105 ∧ (mu_X14_readMember_45 σ gg s180 y45_1 v105) < (mu_X14_readMember_45 σ gg s45 y45_1 y45_2)))) ∧ (y45_2 = 0 → (0 ≤ y45_1 ∧ y45_1 < 50000) ∧ pre_X14_blanks (sT s127 (rR σ 7) 2 y45_1 v105) ∧ (∀ (s180 : rS), rWF s180 → (rNMp (sT s127 (rR σ 7) 2 y45_1 v105) → rNMp s180) → (TPRp (sT s127 (rR σ 7) 2 y45_1 v105) → TPRp s180) → (WNp (sT s127 (rR σ 7) 2 y45_1 v105) → WNp s180) → (PNp (sT s127 (rR σ 7) 2 y45_1 v105) → PNp s180) → (CCp (sT s127 (rR σ 7) 2 y45_1 v105) → CCp s180) → rR s180 7 = rR (sT s127 (rR σ 7) 2 y45_1 v105) 7 → rF s180 0 10 = rF (sT s127 (rR σ 7) 2 y45_1 v105) 0 10 → rF s180 0 14 = rF (sT s127 (rR σ 7) 2 y45_1 v105) 0 14 → rF s180 0 19 = rF (sT s127 (rR σ 7) 2 y45_1 v105) 0 19 → rF s180 0 28 = rF (sT s127 (rR σ 7) 2 y45_1 v105) 0 28 → rF s180 0 30 = rF (sT s127 (rR σ 7) 2 y45_1 v105) 0 30 → rF s180 0 31 = rF (sT s127 (rR σ 7) 2 y45_1 v105) 0 31 → rF s180 0 32 = rF (sT s127 (rR σ 7) 2 y45_1 v105) 0 32 → rF s180 0 33 = rF (sT s127 (rR σ 7) 2 y45_1 v105) 0 33 → rF s180 0 38 = rF (sT s127 (rR σ 7) 2 y45_1 v105) 0 38 → rF s180 0 39 = rF (sT s127 (rR σ 7) 2 y45_1 v105) 0 39 → rF s180 0 41 = rF (sT s127 (rR σ 7) 2 y45_1 v105) 0 41 → (∀ i, rA s180 1026 i = rA (sT s127 (rR σ 7) 2 y45_1 v105) 1026 i) → rF s180 (rR σ 7) 7 = rF (sT s127 (rR σ 7) 2 y45_1 v105) (rR σ 7) 7 → rF s180 (rR σ 7) 9 = rF (sT s127 (rR σ 7) 2 y45_1 v105) (rR σ 7) 9 → rF s180 (rR σ 7) 12 = rF (sT s127 (rR σ 7) 2 y45_1 v105) (rR σ 7) 12 → rF s180 (rR σ 7) 32 = rF (sT s127 (rR σ 7) 2 y45_1 v105) (rR σ 7) 32 → rF s180 (rR σ 7) 38 = rF (sT s127 (rR σ 7) 2 y45_1 v105) (rR σ 7) 38 → RG (sT s127 (rR σ 7) 2 y45_1 v105) s180 (rR σ 7) 0 → post_X14_blanks (sT s127 (rR σ 7) 2 y45_1 v105) s180 → (inv_X14_readMember_45 σ gg s180 y45_1 v105 ∧ (mu_X14_readMember_45 σ gg s180 y45_1 v105) < (mu_X14_readMember_45 σ gg s45 y45_1 y45_2))))))))))))))))))))))
def VC_X14_readMember_45m (n : Nat) (σ : rS) (gg : Nat) : Prop := ∀ (s45 : rS) (y45_1 : Int) (y45_2 : Int), rWF s45 → rng y45_1 → rng y45_2 → (TPRp σ → TPRp s45) → (CCp σ → CCp s45) → rR s45 7 = rR σ 7 → rF s45 0 14 = rF σ 0 14 → rF s45 0 19 = rF σ 0 19 → rF s45 0 28 = rF σ 0 28 → rF s45 0 30 = rF σ 0 30 → rF s45 0 32 = rF σ 0 32 → rF s45 0 33 = rF σ 0 33 → (∀ i, rA s45 1026 i = rA σ 1026 i) → inv_X14_readMember_45 σ gg s45 y45_1 y45_2 → 0 < (mu_X14_readMember_45 σ gg s45 y45_1 y45_2)
set_option maxHeartbeats 4000000 in
theorem vX14_readMember (n : Nat) (σ : rS) (gg : Nat) (hwf : rWF σ) (hp : pre_X14_readMember σ gg) (hr : rk_X14_readMember σ gg ≤ n + 1) : VC_X14_readMember n σ gg (post_X14_readMember σ gg) := by
  unfold pre_X14_readMember at hp
  obtain ⟨hp_1, hp_2, hp_3, hp_4, hp_5, hp_6, hp_7⟩ := hp
  subst hp_1
  unfold rk_X14_readMember at hr
  have hN := hp_4
  unfold NBP at hN
  have hC := hp_3
  unfold CCp at hC
  obtain ⟨hC1, hC⟩ := hC
  have hr2 : rF σ 0 10 = 0 → 16 * (21 - rF σ 0 31).toNat + 6 ≤ n + 1 := fun h => by rw [if_pos h] at hr; exact hr
  have hr3 : 6 ≤ n + 1 := by have := hr; split at this <;> omega
  unfold VC_X14_readMember
  refine ⟨(by (all_goals (repeat' (first | with_reducible intro _ | with_reducible apply And.intro))); all_goals (first | assumption | trivial | (unfold NBP; omega) | (unfold NBQ; omega) | omega | (split <;> omega) | done)), ?_⟩
  refine ⟨(by (try simp only [pre_X14_blanks]); (all_goals (repeat' (first | with_reducible intro _ | with_reducible apply And.intro))); all_goals (first | assumption | trivial | (unfold NBP; omega) | (unfold NBQ; omega) | (exact ((fun _ => RG.rf) (by omega))) | omega | (split <;> omega) | done)), ?_⟩
  intro s1 Ws1 e1_0 e1_1 e1_2 e1_3 e1_4 e1_5 e1_6 e1_7 e1_8 e1_9 e1_10 e1_11 e1_12 e1_13 e1_14 e1_15 e1_16 e1_17 e1_18 e1_19 e1_20 e1_21 e1_22 R1 q1
  unfold post_X14_blanks at q1
  obtain ⟨q1_1, q1_2⟩ := q1
  (try simp only [NBP, NBQ] at q1_1 q1_2 e1_0 e1_1 e1_2 e1_3 e1_4 e1_5 e1_6 e1_7 e1_8 e1_9 e1_10 e1_11 e1_12 e1_13 e1_14 e1_15 e1_16 e1_17 e1_18 e1_19 e1_20 e1_21 e1_22 R1)
  have Ks1 : rR s1 7 = rR σ 7 := by (try simp only [rR_sF, rR_sA, rR_sT, rR_sL] at e1_0 e1_1 e1_2 e1_3 e1_4 e1_5 e1_6 e1_7 e1_8 e1_9 e1_10 e1_11 e1_12 e1_13 e1_14 e1_15 e1_16 e1_17 e1_18 e1_19 e1_20 e1_21 e1_22 R1); omega
  have A1 : rF s1 0 10 = 0 → RG σ s1 (rR σ 7) 0 := fun hf => RG.trk hp_2 ((fun _ => RG.rf) (by omega)) R1 (by omega)
  have rNMp_1 := e1_0 hp_5
  have TPRp_1 := e1_1 hC1
  have WNp_1 := e1_2 hp_6
  have PNp_1 := e1_3 hp_7
  have CCp_1 := e1_4 hp_3
  intro hr_; unfold rng at hr_
  refine ⟨fun c8 => ?_, fun c8 => ?_⟩
  · refine ⟨(by (try simp only [pre_X14_place, Ks1]); (all_goals (repeat' (first | with_reducible intro _ | with_reducible apply And.intro))); all_goals (first | assumption | trivial | (unfold NBP; (try simp only [Ks1]); omega) | (unfold NBQ; (try simp only [Ks1]); omega) | (exact (A1 (by omega))) | omega | (split <;> omega) | done)), ?_⟩
    intro v19 hv19 q19
    unfold rng at hv19
    unfold post_X14_place at q19
    obtain ⟨q19_1, q19_2⟩ := q19
    (try simp only [Ks1, NBP, NBQ] at q19_1 q19_2)
    refine ⟨(by (try simp only [pre_X14_node_t, Ks1]); (all_goals (repeat' (first | with_reducible intro _ | with_reducible apply And.intro))); all_goals (first | assumption | trivial | (unfold NBP; (try simp only [Ks1]); omega) | (unfold NBQ; (try simp only [Ks1]); omega) | (exact (A1 (by omega))) | omega | (split <;> omega) | done)), ?_⟩
    intro v22 s22 hv22 Ws22 e22_0 e22_1 e22_2 e22_3 e22_4 e22_5 e22_6 e22_7 e22_8 e22_9 e22_10 e22_11 e22_12 e22_13 e22_14 e22_15 e22_16 e22_17 e22_18 e22_19 e22_20 e22_21 e22_22 q22
    unfold rng at hv22
    unfold post_X14_node_t at q22
    obtain ⟨q22_1, q22_2, q22_3, q22_4, q22_5, q22_6, q22_7, q22_8, q22_9⟩ := q22
    (try simp only [Ks1, NBP, NBQ] at q22_1 q22_2 q22_3 q22_4 q22_5 q22_6 q22_7 q22_8 q22_9 e22_0 e22_1 e22_2 e22_3 e22_4 e22_5 e22_6 e22_7 e22_8 e22_9 e22_10 e22_11 e22_12 e22_13 e22_14 e22_15 e22_16 e22_17 e22_18 e22_19 e22_20 e22_21 e22_22)
    have Ks22 : rR s22 7 = rR σ 7 := by (try simp only [rR_sF, rR_sA, rR_sT, rR_sL] at e22_0 e22_1 e22_2 e22_3 e22_4 e22_5 e22_6 e22_7 e22_8 e22_9 e22_10 e22_11 e22_12 e22_13 e22_14 e22_15 e22_16 e22_17 e22_18 e22_19 e22_20 e22_21 e22_22); omega
    have A22 : rF s22 0 10 = 0 → RG σ s22 (rR σ 7) 0 := fun hf => RG.trk hp_2 (A1 (by omega)) q22_3 (by omega)
    have rNMp_22 := e22_0 rNMp_1
    have TPRp_22 := e22_1 TPRp_1
    have WNp_22 := e22_2 WNp_1
    have PNp_22 := e22_3 PNp_1
    have CCp_22 := e22_4 CCp_1
    have I0_h34 : rF s22 0 10 = 0 → tr s22 (rR σ 7) 0 v22 = 41 := fun hf => q22_4
    have I2_h35 : rF s22 0 10 = 0 → tr s22 (rR σ 7) 2 v22 = 0 := fun hf => q22_6
    have I3_h36 : rF s22 0 10 = 0 → tr s22 (rR σ 7) 3 v22 = 0 := fun hf => q22_7
    have I5_h37 : rF s22 0 10 = 0 → tr s22 (rR σ 7) 5 v22 = 0 := fun hf => q22_9
    refine ⟨(by (try simp only [pre_X14_readPrimary, Ks22]); (all_goals (repeat' (first | with_reducible intro _ | with_reducible apply And.intro))); all_goals (first | assumption | trivial | (unfold NBP; (try simp only [Ks22]); omega) | (unfold NBQ; (try simp only [Ks22]); omega) | (exact (A22 (by omega))) | (exact I0_h34 (by omega)) | (exact I2_h35 (by omega)) | (exact I3_h36 (by omega)) | (exact I5_h37 (by omega)) | omega | (split <;> omega) | done)), ?_⟩
    refine ⟨(by (try simp only [rk_X14_readPrimary, Ks22]); (all_goals (repeat' (first | with_reducible intro _ | with_reducible apply And.intro))); all_goals (first | assumption | trivial | (unfold NBP; (try simp only [Ks22]); omega) | (unfold NBQ; (try simp only [Ks22]); omega) | (exact (A22 (by omega))) | (exact I0_h34 (by omega)) | (exact I2_h35 (by omega)) | (exact I3_h36 (by omega)) | (exact I5_h37 (by omega)) | omega | (split <;> omega) | done)), ?_⟩
    intro v35 s35 hv35 Ws35 e35_0 e35_1 e35_2 e35_3 e35_4 e35_5 e35_6 e35_7 e35_8 e35_9 q35
    unfold rng at hv35
    unfold post_X14_readPrimary at q35
    obtain ⟨q35_1, q35_2, q35_3, q35_4, q35_5, q35_6, q35_7, q35_8, q35_9, q35_10⟩ := q35
    (try simp only [Ks22, NBP, NBQ] at q35_1 q35_2 q35_3 q35_4 q35_5 q35_6 q35_7 q35_8 q35_9 q35_10 e35_0 e35_1 e35_2 e35_3 e35_4 e35_5 e35_6 e35_7 e35_8 e35_9)
    have Ks35 : rR s35 7 = rR σ 7 := by (try simp only [rR_sF, rR_sA, rR_sT, rR_sL] at e35_0 e35_1 e35_2 e35_3 e35_4 e35_5 e35_6 e35_7 e35_8 e35_9); omega
    have A35 : rF s35 0 10 = 0 → RG σ s35 (rR σ 7) 0 := fun hf => RG.trk hp_2 (A22 (by omega)) (q35_5 hf) (by omega)
    have I0_35 := fun (hf : rF s35 0 10 = 0) => (RG.fA hp_2 (q35_5 hf)).trans (I0_h34 (by omega))
    have I2_35 := fun (hf : rF s35 0 10 = 0) => (RG.fA hp_2 (q35_5 hf)).trans (I2_h35 (by omega))
    have I3_35 := fun (hf : rF s35 0 10 = 0) => (RG.fA hp_2 (q35_5 hf)).trans (I3_h36 (by omega))
    have I5_35 := fun (hf : rF s35 0 10 = 0) => (RG.fA hp_2 (q35_5 hf)).trans (I5_h37 (by omega))
    have TPRp_35 := e35_0 TPRp_22
    have CCp_35 := e35_1 CCp_22
    refine ⟨(by (try simp only [Ks35]); (all_goals (repeat' (first | with_reducible intro _ | with_reducible apply And.intro))); all_goals (first | assumption | trivial | (unfold NBP; (try simp only [Ks35]); omega) | (unfold NBQ; (try simp only [Ks35]); omega) | (exact (A35 (by omega))) | (exact I0_35 (by omega)) | (exact I2_35 (by omega)) | (exact I3_35 (by omega)) | (exact I5_35 (by omega)) | omega | (split <;> omega) | done)), ?_⟩
    have E35 : rF s35 0 10 = 0 → TS s35 (rR σ 7) 2 v35 0 (rF σ 0 31) 0 (v22 + 1) (rF s35 (rR σ 7) 7) 0 0 (rF s22 (rR σ 7) 32) (rF s35 (rR σ 7) 32) := fun hf => (q35_8 hf).cst
    have F_h55 : rF s35 0 10 = 0 → MI (sT s35 (rR σ 7) 1 v22 v35) (rR σ 7) v22 0 (rF σ 0 31) (rF s22 (rR σ 7) 32) (rF s35 (rR σ 7) 7) (rF s35 (rR σ 7) 32) := fun hf => MI.init hp_2 (I0_35 hf) (I2_35 hf) (I3_35 hf) (I5_35 hf) (E35 hf)
    refine ⟨(by (try simp only [pre_X14_blanks, reduceIte, and_true, true_and, and_false, false_and, and_self, rF_sA, rA_sA, rR_sA, rF_sT, rA_sT, rR_sT, sT_sF, TPRp_sT hp_2, WNp_sT hp_2, VMp_sT hp_2, KYp_sT hp_2, PPp_sT hp_2, WFp_sT hp_2, CCp_sT hp_2, rNMp_sT1, PNp_sT1, Ks35]); (all_goals (repeat' (first | with_reducible intro _ | with_reducible apply And.intro))); all_goals (first | assumption | trivial | (unfold NBP; (try simp only [reduceIte, and_true, true_and, and_false, false_and, and_self, rF_sA, rA_sA, rR_sA, rF_sT, rA_sT, rR_sT, sT_sF, TPRp_sT hp_2, WNp_sT hp_2, VMp_sT hp_2, KYp_sT hp_2, PPp_sT hp_2, WFp_sT hp_2, CCp_sT hp_2, rNMp_sT1, PNp_sT1, Ks35]); omega) | (unfold NBQ; (try simp only [reduceIte, and_true, true_and, and_false, false_and, and_self, rF_sA, rA_sA, rR_sA, rF_sT, rA_sT, rR_sT, sT_sF, TPRp_sT hp_2, WNp_sT hp_2, VMp_sT hp_2, KYp_sT hp_2, PPp_sT hp_2, WFp_sT hp_2, CCp_sT hp_2, rNMp_sT1, PNp_sT1, Ks35]); omega) | (exact (RG.tst hp_2 (A35 (by omega)) (by decide) (by omega))) | (exact (F_h55 (by omega)).cst) | omega | (split <;> omega) | done)), ?_⟩
    intro s42 Ws42 e42_0 e42_1 e42_2 e42_3 e42_4 e42_5 e42_6 e42_7 e42_8 e42_9 e42_10 e42_11 e42_12 e42_13 e42_14 e42_15 e42_16 e42_17 e42_18 e42_19 e42_20 e42_21 e42_22 R42 q42
    unfold post_X14_blanks at q42
    obtain ⟨q42_1, q42_2⟩ := q42
    (try simp only [reduceIte, and_true, true_and, and_false, false_and, and_self, rF_sA, rA_sA, rR_sA, rF_sT, rA_sT, rR_sT, sT_sF, TPRp_sT hp_2, WNp_sT hp_2, VMp_sT hp_2, KYp_sT hp_2, PPp_sT hp_2, WFp_sT hp_2, CCp_sT hp_2, rNMp_sT1, PNp_sT1, Ks35, NBP, NBQ] at q42_1 q42_2 e42_0 e42_1 e42_2 e42_3 e42_4 e42_5 e42_6 e42_7 e42_8 e42_9 e42_10 e42_11 e42_12 e42_13 e42_14 e42_15 e42_16 e42_17 e42_18 e42_19 e42_20 e42_21 e42_22 R42)
    have Ks42 : rR s42 7 = rR σ 7 := by (try simp only [rR_sF, rR_sA, rR_sT, rR_sL] at e42_0 e42_1 e42_2 e42_3 e42_4 e42_5 e42_6 e42_7 e42_8 e42_9 e42_10 e42_11 e42_12 e42_13 e42_14 e42_15 e42_16 e42_17 e42_18 e42_19 e42_20 e42_21 e42_22 R42); omega
    have A42 : rF s42 0 10 = 0 → RG σ s42 (rR σ 7) 0 := fun hf => RG.trk hp_2 (RG.tst hp_2 (A35 (by omega)) (by decide) (by omega)) R42 (by omega)
    have F_42 := fun (hf : rF s42 0 10 = 0) => MI.rg hp_2 R42 (F_h55 (by omega))
    have rNMp_42 := e42_0 q35_2
    have TPRp_42 := e42_1 TPRp_35
    have WNp_42 := e42_2 q35_3
    have PNp_42 := e42_3 q35_4
    have CCp_42 := e42_4 CCp_35
    exact (by (try simp only [inv_X14_readMember_45, Ks42]); (all_goals (repeat' (first | with_reducible intro _ | with_reducible apply And.intro))); all_goals (first | assumption | trivial | (unfold NBP; (try simp only [Ks42]); omega) | (unfold NBQ; (try simp only [Ks42]); omega) | (exact (A42 (by omega))) | (exact (F_42 (by omega)).cst) | omega | (split <;> omega) | done))
  · exact (by (try simp only [post_X14_readMember, Ks1]); (all_goals (repeat' (first | with_reducible intro _ | with_reducible apply And.intro))); all_goals (first | assumption | trivial | (unfold NBP; (try simp only [Ks1]); omega) | (unfold NBQ; (try simp only [Ks1]); omega) | (exact (A1 (by omega))) | omega | (split <;> omega) | done))
set_option maxHeartbeats 4000000 in
theorem vX14_readMember_45 (n : Nat) (σ : rS) (gg : Nat) (hwf : rWF σ) (hp : pre_X14_readMember σ gg) (hr : rk_X14_readMember σ gg ≤ n + 1) : VC_X14_readMember_45 n σ gg (post_X14_readMember σ gg) := by
  unfold pre_X14_readMember at hp
  obtain ⟨hp_1, hp_2, hp_3, hp_4, hp_5, hp_6, hp_7⟩ := hp
  subst hp_1
  unfold rk_X14_readMember at hr
  have hN := hp_4
  unfold NBP at hN
  have hC := hp_3
  unfold CCp at hC
  obtain ⟨hC1, hC⟩ := hC
  have hr2 : rF σ 0 10 = 0 → 16 * (21 - rF σ 0 31).toNat + 6 ≤ n + 1 := fun h => by rw [if_pos h] at hr; exact hr
  have hr3 : 6 ≤ n + 1 := by have := hr; split at this <;> omega
  unfold VC_X14_readMember_45
  intro s45 y45_1 y45_2 Ws45 hy45_1 hy45_2 e45_0 e45_1 e45_2 e45_3 e45_4 e45_5 e45_6 e45_7 e45_8 e45_9 I45
  have Ks45 : rR s45 7 = rR σ 7 := by omega
  unfold inv_X14_readMember_45 at I45
  obtain ⟨I45_1, I45_2, I45_3, I45_4, I45_5, I45_6, I45_7, I45_8, I45_9, I45_10, I45_11, I45_12⟩ := I45
  (try simp only [Ks45, NBP, NBQ] at I45_1 I45_2 I45_3 I45_4 I45_5 I45_6 I45_7 I45_8 I45_9 I45_10 I45_11 I45_12)
  have TPRp_45 := e45_0 hC1
  have CCp_45 := e45_1 hp_3
  refine ⟨(by (try simp only [pre_X14_here, Ks45]); (all_goals (repeat' (first | with_reducible intro _ | with_reducible apply And.intro))); all_goals (first | assumption | trivial | (unfold NBP; (try simp only [Ks45]); omega) | (unfold NBQ; (try simp only [Ks45]); omega) | (exact (I45_6 (by omega))) | (exact (I45_12 (by omega)).cst) | omega | (split <;> omega) | done)), ?_⟩
  intro v46 hv46 q46
  unfold rng at hv46
  unfold post_X14_here at q46
  obtain ⟨q46_1, q46_2⟩ := q46
  (try simp only [Ks45, NBP, NBQ] at q46_1 q46_2)
  refine ⟨fun c51 => ?_, fun c51 => ?_⟩
  · have T_h14 : rF s45 0 10 = 0 → TS s45 (rR σ 7) 1 y45_1 0 (rF σ 0 31) 1 (rF σ (rR σ 7) 7) (rF s45 (rR σ 7) 7) 0 0 (rF σ (rR σ 7) 32) (rF s45 (rR σ 7) 32) := fun hf => (MI.done hp_2 (I45_12 hf)).cst
    have T5_h15 : rF s45 0 10 = 0 → tr s45 (rR σ 7) 5 y45_1 = 0 := fun hf => (I45_12 hf).2.2.1
    have T3_h16 : rF s45 0 10 = 0 → tr s45 (rR σ 7) 3 y45_1 = 0 := fun hf => (I45_12 hf).2.1
    exact (by (try simp only [post_X14_readMember, Ks45]); (all_goals (repeat' (first | with_reducible intro _ | with_reducible apply And.intro))); all_goals (first | assumption | trivial | (unfold NBP; (try simp only [Ks45]); omega) | (unfold NBQ; (try simp only [Ks45]); omega) | (exact (I45_6 (by omega))) | (exact (I45_12 (by omega)).cst) | (exact (T_h14 (by omega)).cst) | (exact T5_h15 (by omega)) | (exact T3_h16 (by omega)) | omega | (split <;> omega) | done))
  · intro hr_; unfold rng at hr_
    refine ⟨fun c58 => ?_, fun c58 => ?_⟩
    · have T_h20 : rF s45 0 10 = 0 → TS s45 (rR σ 7) 1 y45_1 0 (rF σ 0 31) 1 (rF σ (rR σ 7) 7) (rF s45 (rR σ 7) 7) 0 0 (rF σ (rR σ 7) 32) (rF s45 (rR σ 7) 32) := fun hf => (MI.done hp_2 (I45_12 hf)).cst
      have T5_h21 : rF s45 0 10 = 0 → tr s45 (rR σ 7) 5 y45_1 = 0 := fun hf => (I45_12 hf).2.2.1
      have T3_h22 : rF s45 0 10 = 0 → tr s45 (rR σ 7) 3 y45_1 = 0 := fun hf => (I45_12 hf).2.1
      exact (by (try simp only [post_X14_readMember, Ks45]); (all_goals (repeat' (first | with_reducible intro _ | with_reducible apply And.intro))); all_goals (first | assumption | trivial | (unfold NBP; (try simp only [Ks45]); omega) | (unfold NBQ; (try simp only [Ks45]); omega) | (exact (I45_6 (by omega))) | (exact (I45_12 (by omega)).cst) | (exact (T_h20 (by omega)).cst) | (exact T5_h21 (by omega)) | (exact T3_h22 (by omega)) | omega | (split <;> omega) | done))
    · refine ⟨(by (try simp only [pre_X14_place, Ks45]); (all_goals (repeat' (first | with_reducible intro _ | with_reducible apply And.intro))); all_goals (first | assumption | trivial | (unfold NBP; (try simp only [Ks45]); omega) | (unfold NBQ; (try simp only [Ks45]); omega) | (exact (I45_6 (by omega))) | (exact (I45_12 (by omega)).cst) | omega | (split <;> omega) | done)), ?_⟩
      intro v62 hv62 q62
      unfold rng at hv62
      unfold post_X14_place at q62
      obtain ⟨q62_1, q62_2⟩ := q62
      (try simp only [Ks45, NBP, NBQ] at q62_1 q62_2)
      intro hr_; unfold rng at hr_
      refine ⟨(by (try simp only [rng, Ks45]); (all_goals (repeat' (first | with_reducible intro _ | with_reducible apply And.intro))); all_goals (first | assumption | trivial | (unfold NBP; (try simp only [Ks45]); omega) | (unfold NBQ; (try simp only [Ks45]); omega) | (exact (I45_6 (by omega))) | (exact (I45_12 (by omega)).cst) | omega | (split <;> omega) | done)), ?_⟩
      refine ⟨(by (try simp only [pre_X14_blanks, reduceIte, and_true, true_and, and_false, false_and, and_self, rF_sF, rA_sF, rR_sF, tr_sF, TS_sF, LQ_sF, rNMp_sF, PNp_sF, RG_l29, RG_r29, TPRp_sF29, WNp_sF29, VMp_sF29, KYp_sF29, PPp_sF29, WFp_sF29, CCp_sF29, Ks45]); (all_goals (repeat' (first | with_reducible intro _ | with_reducible apply And.intro))); all_goals (first | assumption | trivial | (unfold NBP; (try simp only [reduceIte, and_true, true_and, and_false, false_and, and_self, rF_sF, rA_sF, rR_sF, tr_sF, TS_sF, LQ_sF, rNMp_sF, PNp_sF, RG_l29, RG_r29, TPRp_sF29, WNp_sF29, VMp_sF29, KYp_sF29, PPp_sF29, WFp_sF29, CCp_sF29, Ks45]); omega) | (unfold NBQ; (try simp only [reduceIte, and_true, true_and, and_false, false_and, and_self, rF_sF, rA_sF, rR_sF, tr_sF, TS_sF, LQ_sF, rNMp_sF, PNp_sF, RG_l29, RG_r29, TPRp_sF29, WNp_sF29, VMp_sF29, KYp_sF29, PPp_sF29, WFp_sF29, CCp_sF29, Ks45]); omega) | (exact (I45_6 (by omega))) | (exact (I45_12 (by omega)).cst) | omega | (split <;> omega) | done)), ?_⟩
      intro s77 Ws77 e77_0 e77_1 e77_2 e77_3 e77_4 e77_5 e77_6 e77_7 e77_8 e77_9 e77_10 e77_11 e77_12 e77_13 e77_14 e77_15 e77_16 e77_17 e77_18 e77_19 e77_20 e77_21 e77_22 R77 q77
      unfold post_X14_blanks at q77
      obtain ⟨q77_1, q77_2⟩ := q77
      (try simp only [reduceIte, and_true, true_and, and_false, false_and, and_self, rF_sF, rA_sF, rR_sF, tr_sF, TS_sF, LQ_sF, rNMp_sF, PNp_sF, RG_l29, RG_r29, TPRp_sF29, WNp_sF29, VMp_sF29, KYp_sF29, PPp_sF29, WFp_sF29, CCp_sF29, Ks45, NBP, NBQ] at q77_1 q77_2 e77_0 e77_1 e77_2 e77_3 e77_4 e77_5 e77_6 e77_7 e77_8 e77_9 e77_10 e77_11 e77_12 e77_13 e77_14 e77_15 e77_16 e77_17 e77_18 e77_19 e77_20 e77_21 e77_22 R77)
      have Ks77 : rR s77 7 = rR σ 7 := by (try simp only [rR_sF, rR_sA, rR_sT, rR_sL] at e77_0 e77_1 e77_2 e77_3 e77_4 e77_5 e77_6 e77_7 e77_8 e77_9 e77_10 e77_11 e77_12 e77_13 e77_14 e77_15 e77_16 e77_17 e77_18 e77_19 e77_20 e77_21 e77_22 R77); omega
      have A77 : rF s77 0 10 = 0 → RG σ s77 (rR σ 7) 0 := fun hf => RG.trk hp_2 (I45_6 (by omega)) R77 (by omega)
      have F_77 := fun (hf : rF s77 0 10 = 0) => MI.rg hp_2 R77 (I45_12 (by omega))
      have rNMp_77 := e77_0 I45_3
      have TPRp_77 := e77_1 TPRp_45
      have WNp_77 := e77_2 I45_4
      have PNp_77 := e77_3 I45_5
      have CCp_77 := e77_4 CCp_45
      refine ⟨(by (try simp only [pre_X14_here, Ks77]); (all_goals (repeat' (first | with_reducible intro _ | with_reducible apply And.intro))); all_goals (first | assumption | trivial | (unfold NBP; (try simp only [Ks77]); omega) | (unfold NBQ; (try simp only [Ks77]); omega) | (exact (A77 (by omega))) | (exact (F_77 (by omega)).cst) | omega | (split <;> omega) | done)), ?_⟩
      intro v81 hv81 q81
      unfold rng at hv81
      unfold post_X14_here at q81
      obtain ⟨q81_1, q81_2⟩ := q81
      (try simp only [Ks77, NBP, NBQ] at q81_1 q81_2)
      refine ⟨fun c86 => ?_, fun c86 => ?_⟩
      · refine ⟨(by (try simp only [pre_X14_tagName, Ks77]); (all_goals (repeat' (first | with_reducible intro _ | with_reducible apply And.intro))); all_goals (first | assumption | trivial | (unfold NBP; (try simp only [Ks77]); omega) | (unfold NBQ; (try simp only [Ks77]); omega) | (exact (A77 (by omega))) | (exact (F_77 (by omega)).cst) | omega | (split <;> omega) | done)), ?_⟩
        intro v137 s137 hv137 Ws137 e137_0 e137_1 e137_2 e137_3 e137_4 e137_5 e137_6 e137_7 e137_8 e137_9 e137_10 e137_11 e137_12 e137_13 e137_14 e137_15 e137_16 e137_17 R137 q137
        unfold rng at hv137
        unfold post_X14_tagName at q137
        obtain ⟨q137_1, q137_2, q137_3, q137_4, q137_5, q137_6, q137_7, q137_8, q137_9, q137_10⟩ := q137
        (try simp only [Ks77, NBP, NBQ] at q137_1 q137_2 q137_3 q137_4 q137_5 q137_6 q137_7 q137_8 q137_9 q137_10 e137_0 e137_1 e137_2 e137_3 e137_4 e137_5 e137_6 e137_7 e137_8 e137_9 e137_10 e137_11 e137_12 e137_13 e137_14 e137_15 e137_16 e137_17 R137)
        have Ks137 : rR s137 7 = rR σ 7 := by (try simp only [rR_sF, rR_sA, rR_sT, rR_sL] at e137_0 e137_1 e137_2 e137_3 e137_4 e137_5 e137_6 e137_7 e137_8 e137_9 e137_10 e137_11 e137_12 e137_13 e137_14 e137_15 e137_16 e137_17 R137); omega
        have A137 : rF s137 0 10 = 0 → RG σ s137 (rR σ 7) 0 := fun hf => RG.trk hp_2 (A77 (by omega)) R137 (by omega)
        have F_137 := fun (hf : rF s137 0 10 = 0) => MI.rg hp_2 R137 (F_77 (by omega))
        have TPRp_137 := e137_0 TPRp_77
        have WNp_137 := e137_1 WNp_77
        have PNp_137 := e137_2 PNp_77
        have CCp_137 := e137_3 CCp_77
        refine ⟨(by (try simp only [pre_X14_node_t, Ks137]); (all_goals (repeat' (first | with_reducible intro _ | with_reducible apply And.intro))); all_goals (first | assumption | trivial | (unfold NBP; (try simp only [Ks137]); omega) | (unfold NBQ; (try simp only [Ks137]); omega) | (exact (A137 (by omega))) | (exact (F_137 (by omega)).cst) | omega | (split <;> omega) | done)), ?_⟩
        intro v142 s142 hv142 Ws142 e142_0 e142_1 e142_2 e142_3 e142_4 e142_5 e142_6 e142_7 e142_8 e142_9 e142_10 e142_11 e142_12 e142_13 e142_14 e142_15 e142_16 e142_17 e142_18 e142_19 e142_20 e142_21 e142_22 q142
        unfold rng at hv142
        unfold post_X14_node_t at q142
        obtain ⟨q142_1, q142_2, q142_3, q142_4, q142_5, q142_6, q142_7, q142_8, q142_9⟩ := q142
        (try simp only [Ks137, NBP, NBQ] at q142_1 q142_2 q142_3 q142_4 q142_5 q142_6 q142_7 q142_8 q142_9 e142_0 e142_1 e142_2 e142_3 e142_4 e142_5 e142_6 e142_7 e142_8 e142_9 e142_10 e142_11 e142_12 e142_13 e142_14 e142_15 e142_16 e142_17 e142_18 e142_19 e142_20 e142_21 e142_22)
        have Ks142 : rR s142 7 = rR σ 7 := by (try simp only [rR_sF, rR_sA, rR_sT, rR_sL] at e142_0 e142_1 e142_2 e142_3 e142_4 e142_5 e142_6 e142_7 e142_8 e142_9 e142_10 e142_11 e142_12 e142_13 e142_14 e142_15 e142_16 e142_17 e142_18 e142_19 e142_20 e142_21 e142_22); omega
        have A142 : rF s142 0 10 = 0 → RG σ s142 (rR σ 7) 0 := fun hf => RG.trk hp_2 (A137 (by omega)) q142_3 (by omega)
        have F_142 := fun (hf : rF s142 0 10 = 0) => MI.rg hp_2 q142_3 (F_137 (by omega))
        have rNMp_142 := e142_0 q137_5
        have TPRp_142 := e142_1 TPRp_137
        have WNp_142 := e142_2 WNp_137
        have PNp_142 := e142_3 PNp_137
        have CCp_142 := e142_4 CCp_137
        have P_h79 : rF s142 0 10 = 0 → TS s142 (rR σ 7) 3 v142 0 (rF σ 0 31) 0 (rF s137 (rR σ 7) 7) (rF s142 (rR σ 7) 7) 0 0 (rF s137 (rR σ 7) 32) (rF s142 (rR σ 7) 32) := fun hf => TS.pt hp_2 q142_4 q142_5
        have Pn_h80 : rF s142 0 10 = 0 → tr s142 (rR σ 7) 5 v142 = 0 := fun hf => q142_9
        refine ⟨fun c148 => ?_, fun c148 => ?_⟩
        · refine ⟨(by (try simp only [Ks142]); (all_goals (repeat' (first | with_reducible intro _ | with_reducible apply And.intro))); all_goals (first | assumption | trivial | (unfold NBP; (try simp only [Ks142]); omega) | (unfold NBQ; (try simp only [Ks142]); omega) | (exact (A142 (by omega))) | (exact (F_142 (by omega)).cst) | (exact (P_h79 (by omega)).cst) | (exact Pn_h80 (by omega)) | omega | (split <;> omega) | done)), ?_⟩
          have F_h83 : rF s142 0 10 = 0 → MI (sT s142 (rR σ 7) 5 y45_2 v142) (rR σ 7) y45_1 v142 (rF σ 0 31) (rF σ (rR σ 7) 32) (rF s142 (rR σ 7) 7) (rF s142 (rR σ 7) 32) := fun hf => MI.p1 hp_2 (F_142 (by omega)) ((P_h79 (by omega)).cst) (Pn_h80 (by omega))
          refine ⟨(by (try simp only [pre_X14_blanks, reduceIte, and_true, true_and, and_false, false_and, and_self, rF_sA, rA_sA, rR_sA, rF_sT, rA_sT, rR_sT, sT_sF, TPRp_sT hp_2, WNp_sT hp_2, VMp_sT hp_2, KYp_sT hp_2, PPp_sT hp_2, WFp_sT hp_2, CCp_sT hp_2, rNMp_sT5, PNp_sT5, Ks142]); (all_goals (repeat' (first | with_reducible intro _ | with_reducible apply And.intro))); all_goals (first | assumption | trivial | (unfold NBP; (try simp only [reduceIte, and_true, true_and, and_false, false_and, and_self, rF_sA, rA_sA, rR_sA, rF_sT, rA_sT, rR_sT, sT_sF, TPRp_sT hp_2, WNp_sT hp_2, VMp_sT hp_2, KYp_sT hp_2, PPp_sT hp_2, WFp_sT hp_2, CCp_sT hp_2, rNMp_sT5, PNp_sT5, Ks142]); omega) | (unfold NBQ; (try simp only [reduceIte, and_true, true_and, and_false, false_and, and_self, rF_sA, rA_sA, rR_sA, rF_sT, rA_sT, rR_sT, sT_sF, TPRp_sT hp_2, WNp_sT hp_2, VMp_sT hp_2, KYp_sT hp_2, PPp_sT hp_2, WFp_sT hp_2, CCp_sT hp_2, rNMp_sT5, PNp_sT5, Ks142]); omega) | (exact (RG.tst hp_2 (A142 (by omega)) (by decide) (by omega))) | (exact (F_h83 (by omega)).cst) | omega | (split <;> omega) | done)), ?_⟩
          intro s180 Ws180 e180_0 e180_1 e180_2 e180_3 e180_4 e180_5 e180_6 e180_7 e180_8 e180_9 e180_10 e180_11 e180_12 e180_13 e180_14 e180_15 e180_16 e180_17 e180_18 e180_19 e180_20 e180_21 e180_22 R180 q180
          unfold post_X14_blanks at q180
          obtain ⟨q180_1, q180_2⟩ := q180
          (try simp only [reduceIte, and_true, true_and, and_false, false_and, and_self, rF_sA, rA_sA, rR_sA, rF_sT, rA_sT, rR_sT, sT_sF, TPRp_sT hp_2, WNp_sT hp_2, VMp_sT hp_2, KYp_sT hp_2, PPp_sT hp_2, WFp_sT hp_2, CCp_sT hp_2, rNMp_sT5, PNp_sT5, Ks142, NBP, NBQ] at q180_1 q180_2 e180_0 e180_1 e180_2 e180_3 e180_4 e180_5 e180_6 e180_7 e180_8 e180_9 e180_10 e180_11 e180_12 e180_13 e180_14 e180_15 e180_16 e180_17 e180_18 e180_19 e180_20 e180_21 e180_22 R180)
          have Ks180 : rR s180 7 = rR σ 7 := by (try simp only [rR_sF, rR_sA, rR_sT, rR_sL] at e180_0 e180_1 e180_2 e180_3 e180_4 e180_5 e180_6 e180_7 e180_8 e180_9 e180_10 e180_11 e180_12 e180_13 e180_14 e180_15 e180_16 e180_17 e180_18 e180_19 e180_20 e180_21 e180_22 R180); omega
          have A180 : rF s180 0 10 = 0 → RG σ s180 (rR σ 7) 0 := fun hf => RG.trk hp_2 (RG.tst hp_2 (A142 (by omega)) (by decide) (by omega)) R180 (by omega)
          have F_180 := fun (hf : rF s180 0 10 = 0) => MI.rg hp_2 R180 (F_h83 (by omega))
          have rNMp_180 := e180_0 rNMp_142
          have TPRp_180 := e180_1 TPRp_142
          have WNp_180 := e180_2 WNp_142
          have PNp_180 := e180_3 PNp_142
          have CCp_180 := e180_4 CCp_142
          exact (by (try simp only [inv_X14_readMember_45, mu_X14_readMember_45, mu_X14_readMember_45, Ks180]); (all_goals (repeat' (first | with_reducible intro _ | with_reducible apply And.intro))); all_goals (first | assumption | trivial | (unfold NBP; (try simp only [Ks180]); omega) | (unfold NBQ; (try simp only [Ks180]); omega) | (exact (A180 (by omega))) | (exact (F_180 (by omega)).cst) | omega | (split <;> omega) | done))
        · refine ⟨(by (try simp only [Ks142]); (all_goals (repeat' (first | with_reducible intro _ | with_reducible apply And.intro))); all_goals (first | assumption | trivial | (unfold NBP; (try simp only [Ks142]); omega) | (unfold NBQ; (try simp only [Ks142]); omega) | (exact (A142 (by omega))) | (exact (F_142 (by omega)).cst) | (exact (P_h79 (by omega)).cst) | (exact Pn_h80 (by omega)) | omega | (split <;> omega) | done)), ?_⟩
          have F_h99 : rF s142 0 10 = 0 → MI (sT s142 (rR σ 7) 2 y45_1 v142) (rR σ 7) y45_1 v142 (rF σ 0 31) (rF σ (rR σ 7) 32) (rF s142 (rR σ 7) 7) (rF s142 (rR σ 7) 32) := fun hf => MI.p0 hp_2 (F_142 (by omega)) ((P_h79 (by omega)).cst) (Pn_h80 (by omega))
          refine ⟨(by (try simp only [pre_X14_blanks, reduceIte, and_true, true_and, and_false, false_and, and_self, rF_sA, rA_sA, rR_sA, rF_sT, rA_sT, rR_sT, sT_sF, TPRp_sT hp_2, WNp_sT hp_2, VMp_sT hp_2, KYp_sT hp_2, PPp_sT hp_2, WFp_sT hp_2, CCp_sT hp_2, rNMp_sT2, PNp_sT2, Ks142]); (all_goals (repeat' (first | with_reducible intro _ | with_reducible apply And.intro))); all_goals (first | assumption | trivial | (unfold NBP; (try simp only [reduceIte, and_true, true_and, and_false, false_and, and_self, rF_sA, rA_sA, rR_sA, rF_sT, rA_sT, rR_sT, sT_sF, TPRp_sT hp_2, WNp_sT hp_2, VMp_sT hp_2, KYp_sT hp_2, PPp_sT hp_2, WFp_sT hp_2, CCp_sT hp_2, rNMp_sT2, PNp_sT2, Ks142]); omega) | (unfold NBQ; (try simp only [reduceIte, and_true, true_and, and_false, false_and, and_self, rF_sA, rA_sA, rR_sA, rF_sT, rA_sT, rR_sT, sT_sF, TPRp_sT hp_2, WNp_sT hp_2, VMp_sT hp_2, KYp_sT hp_2, PPp_sT hp_2, WFp_sT hp_2, CCp_sT hp_2, rNMp_sT2, PNp_sT2, Ks142]); omega) | (exact (RG.tst hp_2 (A142 (by omega)) (by decide) (by omega))) | (exact (F_h99 (by omega)).cst) | omega | (split <;> omega) | done)), ?_⟩
          intro s180 Ws180 e180_0 e180_1 e180_2 e180_3 e180_4 e180_5 e180_6 e180_7 e180_8 e180_9 e180_10 e180_11 e180_12 e180_13 e180_14 e180_15 e180_16 e180_17 e180_18 e180_19 e180_20 e180_21 e180_22 R180 q180
          unfold post_X14_blanks at q180
          obtain ⟨q180_1, q180_2⟩ := q180
          (try simp only [reduceIte, and_true, true_and, and_false, false_and, and_self, rF_sA, rA_sA, rR_sA, rF_sT, rA_sT, rR_sT, sT_sF, TPRp_sT hp_2, WNp_sT hp_2, VMp_sT hp_2, KYp_sT hp_2, PPp_sT hp_2, WFp_sT hp_2, CCp_sT hp_2, rNMp_sT2, PNp_sT2, Ks142, NBP, NBQ] at q180_1 q180_2 e180_0 e180_1 e180_2 e180_3 e180_4 e180_5 e180_6 e180_7 e180_8 e180_9 e180_10 e180_11 e180_12 e180_13 e180_14 e180_15 e180_16 e180_17 e180_18 e180_19 e180_20 e180_21 e180_22 R180)
          have Ks180 : rR s180 7 = rR σ 7 := by (try simp only [rR_sF, rR_sA, rR_sT, rR_sL] at e180_0 e180_1 e180_2 e180_3 e180_4 e180_5 e180_6 e180_7 e180_8 e180_9 e180_10 e180_11 e180_12 e180_13 e180_14 e180_15 e180_16 e180_17 e180_18 e180_19 e180_20 e180_21 e180_22 R180); omega
          have A180 : rF s180 0 10 = 0 → RG σ s180 (rR σ 7) 0 := fun hf => RG.trk hp_2 (RG.tst hp_2 (A142 (by omega)) (by decide) (by omega)) R180 (by omega)
          have F_180 := fun (hf : rF s180 0 10 = 0) => MI.rg hp_2 R180 (F_h99 (by omega))
          have rNMp_180 := e180_0 rNMp_142
          have TPRp_180 := e180_1 TPRp_142
          have WNp_180 := e180_2 WNp_142
          have PNp_180 := e180_3 PNp_142
          have CCp_180 := e180_4 CCp_142
          exact (by (try simp only [inv_X14_readMember_45, mu_X14_readMember_45, mu_X14_readMember_45, Ks180]); (all_goals (repeat' (first | with_reducible intro _ | with_reducible apply And.intro))); all_goals (first | assumption | trivial | (unfold NBP; (try simp only [Ks180]); omega) | (unfold NBQ; (try simp only [Ks180]); omega) | (exact (A180 (by omega))) | (exact (F_180 (by omega)).cst) | omega | (split <;> omega) | done))
      · intro hr_; unfold rng at hr_
        refine ⟨(by (try simp only [rng, Ks77]); (all_goals (repeat' (first | with_reducible intro _ | with_reducible apply And.intro))); all_goals (first | assumption | trivial | (unfold NBP; (try simp only [Ks77]); omega) | (unfold NBQ; (try simp only [Ks77]); omega) | (exact (A77 (by omega))) | (exact (F_77 (by omega)).cst) | omega | (split <;> omega) | done)), ?_⟩
        refine ⟨(by (try simp only [pre_X14_node_t, reduceIte, and_true, true_and, and_false, false_and, and_self, rF_sF, rA_sF, rR_sF, tr_sF, TS_sF, LQ_sF, rNMp_sF, PNp_sF, RG_l29, RG_r29, TPRp_sF29, WNp_sF29, VMp_sF29, KYp_sF29, PPp_sF29, WFp_sF29, CCp_sF29, Ks77]); (all_goals (repeat' (first | with_reducible intro _ | with_reducible apply And.intro))); all_goals (first | assumption | trivial | (unfold NBP; (try simp only [reduceIte, and_true, true_and, and_false, false_and, and_self, rF_sF, rA_sF, rR_sF, tr_sF, TS_sF, LQ_sF, rNMp_sF, PNp_sF, RG_l29, RG_r29, TPRp_sF29, WNp_sF29, VMp_sF29, KYp_sF29, PPp_sF29, WFp_sF29, CCp_sF29, Ks77]); omega) | (unfold NBQ; (try simp only [reduceIte, and_true, true_and, and_false, false_and, and_self, rF_sF, rA_sF, rR_sF, tr_sF, TS_sF, LQ_sF, rNMp_sF, PNp_sF, RG_l29, RG_r29, TPRp_sF29, WNp_sF29, VMp_sF29, KYp_sF29, PPp_sF29, WFp_sF29, CCp_sF29, Ks77]); omega) | (exact (A77 (by omega))) | (exact (F_77 (by omega)).cst) | omega | (split <;> omega) | done)), ?_⟩
        intro v105 s105 hv105 Ws105 e105_0 e105_1 e105_2 e105_3 e105_4 e105_5 e105_6 e105_7 e105_8 e105_9 e105_10 e105_11 e105_12 e105_13 e105_14 e105_15 e105_16 e105_17 e105_18 e105_19 e105_20 e105_21 e105_22 q105
        unfold rng at hv105
        unfold post_X14_node_t at q105
        obtain ⟨q105_1, q105_2, q105_3, q105_4, q105_5, q105_6, q105_7, q105_8, q105_9⟩ := q105
        (try simp only [reduceIte, and_true, true_and, and_false, false_and, and_self, rF_sF, rA_sF, rR_sF, tr_sF, TS_sF, LQ_sF, rNMp_sF, PNp_sF, RG_l29, RG_r29, TPRp_sF29, WNp_sF29, VMp_sF29, KYp_sF29, PPp_sF29, WFp_sF29, CCp_sF29, Ks77, NBP, NBQ] at q105_1 q105_2 q105_3 q105_4 q105_5 q105_6 q105_7 q105_8 q105_9 e105_0 e105_1 e105_2 e105_3 e105_4 e105_5 e105_6 e105_7 e105_8 e105_9 e105_10 e105_11 e105_12 e105_13 e105_14 e105_15 e105_16 e105_17 e105_18 e105_19 e105_20 e105_21 e105_22)
        have Ks105 : rR s105 7 = rR σ 7 := by (try simp only [rR_sF, rR_sA, rR_sT, rR_sL] at e105_0 e105_1 e105_2 e105_3 e105_4 e105_5 e105_6 e105_7 e105_8 e105_9 e105_10 e105_11 e105_12 e105_13 e105_14 e105_15 e105_16 e105_17 e105_18 e105_19 e105_20 e105_21 e105_22); omega
        have A105 : rF s105 0 10 = 0 → RG σ s105 (rR σ 7) 0 := fun hf => RG.trk hp_2 (A77 (by omega)) q105_3 (by omega)
        have F_105 := fun (hf : rF s105 0 10 = 0) => MI.rg hp_2 q105_3 (F_77 (by omega))
        have rNMp_105 := e105_0 rNMp_77
        have TPRp_105 := e105_1 TPRp_77
        have WNp_105 := e105_2 WNp_77
        have PNp_105 := e105_3 PNp_77
        have CCp_105 := e105_4 CCp_77
        have Z0_h130 : rF s105 0 10 = 0 → tr s105 (rR σ 7) 0 v105 = 43 := fun hf => q105_4
        have Z5_h131 : rF s105 0 10 = 0 → tr s105 (rR σ 7) 5 v105 = 0 := fun hf => q105_9
        refine ⟨(by (try simp only [pre_X14_readArg, Ks105]); (all_goals (repeat' (first | with_reducible intro _ | with_reducible apply And.intro))); all_goals (first | assumption | trivial | (unfold NBP; (try simp only [Ks105]); omega) | (unfold NBQ; (try simp only [Ks105]); omega) | (exact (A105 (by omega))) | (exact (F_105 (by omega)).cst) | (exact Z0_h130 (by omega)) | (exact Z5_h131 (by omega)) | omega | (split <;> omega) | done)), ?_⟩
        refine ⟨(by (try simp only [rk_X14_readArg, Ks105]); (all_goals (repeat' (first | with_reducible intro _ | with_reducible apply And.intro))); all_goals (first | assumption | trivial | (unfold NBP; (try simp only [Ks105]); omega) | (unfold NBQ; (try simp only [Ks105]); omega) | (exact (A105 (by omega))) | (exact (F_105 (by omega)).cst) | (exact Z0_h130 (by omega)) | (exact Z5_h131 (by omega)) | omega | (split <;> omega) | done)), ?_⟩
        intro v120 s120 hv120 Ws120 e120_0 e120_1 e120_2 e120_3 e120_4 e120_5 e120_6 e120_7 e120_8 e120_9 q120
        unfold rng at hv120
        unfold post_X14_readArg at q120
        obtain ⟨q120_1, q120_2, q120_3, q120_4, q120_5, q120_6, q120_7, q120_8, q120_9, q120_10⟩ := q120
        (try simp only [Ks105, NBP, NBQ] at q120_1 q120_2 q120_3 q120_4 q120_5 q120_6 q120_7 q120_8 q120_9 q120_10 e120_0 e120_1 e120_2 e120_3 e120_4 e120_5 e120_6 e120_7 e120_8 e120_9)
        have Ks120 : rR s120 7 = rR σ 7 := by (try simp only [rR_sF, rR_sA, rR_sT, rR_sL] at e120_0 e120_1 e120_2 e120_3 e120_4 e120_5 e120_6 e120_7 e120_8 e120_9); omega
        have A120 : rF s120 0 10 = 0 → RG σ s120 (rR σ 7) 0 := fun hf => RG.trk hp_2 (A105 (by omega)) (q120_5 hf) (by omega)
        have F_120 := fun (hf : rF s120 0 10 = 0) => MI.rg hp_2 (q120_5 hf) (F_105 (by omega))
        have Z0_120 := fun (hf : rF s120 0 10 = 0) => (RG.fA hp_2 (q120_5 hf)).trans (Z0_h130 (by omega))
        have Z5_120 := fun (hf : rF s120 0 10 = 0) => (RG.fA hp_2 (q120_5 hf)).trans (Z5_h131 (by omega))
        have TPRp_120 := e120_0 TPRp_105
        have CCp_120 := e120_1 CCp_105
        refine ⟨(by (try simp only [Ks120]); (all_goals (repeat' (first | with_reducible intro _ | with_reducible apply And.intro))); all_goals (first | assumption | trivial | (unfold NBP; (try simp only [Ks120]); omega) | (unfold NBQ; (try simp only [Ks120]); omega) | (exact (A120 (by omega))) | (exact (F_120 (by omega)).cst) | (exact Z0_120 (by omega)) | (exact Z5_120 (by omega)) | omega | (split <;> omega) | done)), ?_⟩
        have F_123 := fun (hf : rF s120 0 10 = 0) => MI.tstA (f := 1) (i := v105) (z := v120) hp_2 (F_120 hf)
        have Z0_123 := fun (hf : rF s120 0 10 = 0) => (tr_ne (f := 1) (i := v105) (x := v120) hp_2 (by omega)).trans (Z0_120 hf)
        have Z5_123 := fun (hf : rF s120 0 10 = 0) => (tr_ne (f := 1) (i := v105) (x := v120) hp_2 (by omega)).trans (Z5_120 hf)
        have P_h150 : rF s120 0 10 = 0 → TS (sT s120 (rR σ 7) 1 v105 v120) (rR σ 7) 3 v105 0 (rF σ 0 31) 0 (rF s77 (rR σ 7) 7) (rF s120 (rR σ 7) 7) 0 0 (rF s77 (rR σ 7) 32) (rF s120 (rR σ 7) 32) := fun hf => TS.ptby hp_2 (Z0_123 hf) (tr_eq hp_2) ((q120_8 hf).tstA hp_2)
        have Pn_h151 : rF s120 0 10 = 0 → tr (sT s120 (rR σ 7) 1 v105 v120) (rR σ 7) 5 v105 = 0 := fun hf => Z5_123 hf
        refine ⟨(by (try simp only [pre_X14_need, reduceIte, and_true, true_and, and_false, false_and, and_self, rF_sA, rA_sA, rR_sA, rF_sT, rA_sT, rR_sT, sT_sF, TPRp_sT hp_2, WNp_sT hp_2, VMp_sT hp_2, KYp_sT hp_2, PPp_sT hp_2, WFp_sT hp_2, CCp_sT hp_2, rNMp_sT1, PNp_sT1, Ks120]); (all_goals (repeat' (first | with_reducible intro _ | with_reducible apply And.intro))); all_goals (first | assumption | trivial | (unfold NBP; (try simp only [reduceIte, and_true, true_and, and_false, false_and, and_self, rF_sA, rA_sA, rR_sA, rF_sT, rA_sT, rR_sT, sT_sF, TPRp_sT hp_2, WNp_sT hp_2, VMp_sT hp_2, KYp_sT hp_2, PPp_sT hp_2, WFp_sT hp_2, CCp_sT hp_2, rNMp_sT1, PNp_sT1, Ks120]); omega) | (unfold NBQ; (try simp only [reduceIte, and_true, true_and, and_false, false_and, and_self, rF_sA, rA_sA, rR_sA, rF_sT, rA_sT, rR_sT, sT_sF, TPRp_sT hp_2, WNp_sT hp_2, VMp_sT hp_2, KYp_sT hp_2, PPp_sT hp_2, WFp_sT hp_2, CCp_sT hp_2, rNMp_sT1, PNp_sT1, Ks120]); omega) | (exact (RG.tst hp_2 (A120 (by omega)) (by decide) (by omega))) | (exact (F_123 (by omega)).cst) | (exact Z0_123 (by omega)) | (exact Z5_123 (by omega)) | (exact (P_h150 (by omega)).cst) | (exact Pn_h151 (by omega)) | omega | (split <;> omega) | done)), ?_⟩
        intro s127 Ws127 e127_0 e127_1 e127_2 e127_3 e127_4 e127_5 e127_6 e127_7 e127_8 e127_9 e127_10 e127_11 e127_12 e127_13 e127_14 e127_15 e127_16 e127_17 e127_18 e127_19 e127_20 e127_21 R127 q127
        unfold post_X14_need at q127
        obtain ⟨q127_1, q127_2, q127_3, q127_4⟩ := q127
        (try simp only [reduceIte, and_true, true_and, and_false, false_and, and_self, rF_sA, rA_sA, rR_sA, rF_sT, rA_sT, rR_sT, sT_sF, TPRp_sT hp_2, WNp_sT hp_2, VMp_sT hp_2, KYp_sT hp_2, PPp_sT hp_2, WFp_sT hp_2, CCp_sT hp_2, rNMp_sT1, PNp_sT1, Ks120, NBP, NBQ] at q127_1 q127_2 q127_3 q127_4 e127_0 e127_1 e127_2 e127_3 e127_4 e127_5 e127_6 e127_7 e127_8 e127_9 e127_10 e127_11 e127_12 e127_13 e127_14 e127_15 e127_16 e127_17 e127_18 e127_19 e127_20 e127_21 R127)
        have Ks127 : rR s127 7 = rR σ 7 := by (try simp only [rR_sF, rR_sA, rR_sT, rR_sL] at e127_0 e127_1 e127_2 e127_3 e127_4 e127_5 e127_6 e127_7 e127_8 e127_9 e127_10 e127_11 e127_12 e127_13 e127_14 e127_15 e127_16 e127_17 e127_18 e127_19 e127_20 e127_21 R127); omega
        have A127 : rF s127 0 10 = 0 → RG σ s127 (rR σ 7) 0 := fun hf => RG.trk hp_2 (RG.tst hp_2 (A120 (by omega)) (by decide) (by omega)) R127 (by omega)
        have F_127 := fun (hf : rF s127 0 10 = 0) => MI.rg hp_2 R127 (F_123 (by omega))
        have Z0_127 := fun (hf : rF s127 0 10 = 0) => (RG.fA hp_2 R127).trans (Z0_123 (by omega))
        have Z5_127 := fun (hf : rF s127 0 10 = 0) => (RG.fA hp_2 R127).trans (Z5_123 (by omega))
        have P_127 := fun (hf : rF s127 0 10 = 0) => RG.tsA hp_2 R127 (P_h150 (by omega))
        have Pn_127 := fun (hf : rF s127 0 10 = 0) => (RG.fA hp_2 R127).trans (Pn_h151 (by omega))
        have rNMp_127 := e127_0 q120_2
        have TPRp_127 := e127_1 TPRp_120
        have WNp_127 := e127_2 q120_3
        have PNp_127 := e127_3 q120_4
        have CCp_127 := e127_4 CCp_120
        refine ⟨fun c148 => ?_, fun c148 => ?_⟩
        · refine ⟨(by (try simp only [Ks127]); (all_goals (repeat' (first | with_reducible intro _ | with_reducible apply And.intro))); all_goals (first | assumption | trivial | (unfold NBP; (try simp only [Ks127]); omega) | (unfold NBQ; (try simp only [Ks127]); omega) | (exact (A127 (by omega))) | (exact (F_127 (by omega)).cst) | (exact Z0_127 (by omega)) | (exact Z5_127 (by omega)) | (exact (P_127 (by omega)).cst) | (exact Pn_127 (by omega)) | omega | (split <;> omega) | done)), ?_⟩
          have F_h171 : rF s127 0 10 = 0 → MI (sT s127 (rR σ 7) 5 y45_2 v105) (rR σ 7) y45_1 v105 (rF σ 0 31) (rF σ (rR σ 7) 32) (rF s127 (rR σ 7) 7) (rF s127 (rR σ 7) 32) := fun hf => MI.p1 hp_2 (F_127 (by omega)) ((P_127 (by omega)).cst) (Pn_127 (by omega))
          refine ⟨(by (try simp only [pre_X14_blanks, reduceIte, and_true, true_and, and_false, false_and, and_self, rF_sA, rA_sA, rR_sA, rF_sT, rA_sT, rR_sT, sT_sF, TPRp_sT hp_2, WNp_sT hp_2, VMp_sT hp_2, KYp_sT hp_2, PPp_sT hp_2, WFp_sT hp_2, CCp_sT hp_2, rNMp_sT5, PNp_sT5, Ks127]); (all_goals (repeat' (first | with_reducible intro _ | with_reducible apply And.intro))); all_goals (first | assumption | trivial | (unfold NBP; (try simp only [reduceIte, and_true, true_and, and_false, false_and, and_self, rF_sA, rA_sA, rR_sA, rF_sT, rA_sT, rR_sT, sT_sF, TPRp_sT hp_2, WNp_sT hp_2, VMp_sT hp_2, KYp_sT hp_2, PPp_sT hp_2, WFp_sT hp_2, CCp_sT hp_2, rNMp_sT5, PNp_sT5, Ks127]); omega) | (unfold NBQ; (try simp only [reduceIte, and_true, true_and, and_false, false_and, and_self, rF_sA, rA_sA, rR_sA, rF_sT, rA_sT, rR_sT, sT_sF, TPRp_sT hp_2, WNp_sT hp_2, VMp_sT hp_2, KYp_sT hp_2, PPp_sT hp_2, WFp_sT hp_2, CCp_sT hp_2, rNMp_sT5, PNp_sT5, Ks127]); omega) | (exact (RG.tst hp_2 (A127 (by omega)) (by decide) (by omega))) | (exact (F_h171 (by omega)).cst) | omega | (split <;> omega) | done)), ?_⟩
          intro s180 Ws180 e180_0 e180_1 e180_2 e180_3 e180_4 e180_5 e180_6 e180_7 e180_8 e180_9 e180_10 e180_11 e180_12 e180_13 e180_14 e180_15 e180_16 e180_17 e180_18 e180_19 e180_20 e180_21 e180_22 R180 q180
          unfold post_X14_blanks at q180
          obtain ⟨q180_1, q180_2⟩ := q180
          (try simp only [reduceIte, and_true, true_and, and_false, false_and, and_self, rF_sA, rA_sA, rR_sA, rF_sT, rA_sT, rR_sT, sT_sF, TPRp_sT hp_2, WNp_sT hp_2, VMp_sT hp_2, KYp_sT hp_2, PPp_sT hp_2, WFp_sT hp_2, CCp_sT hp_2, rNMp_sT5, PNp_sT5, Ks127, NBP, NBQ] at q180_1 q180_2 e180_0 e180_1 e180_2 e180_3 e180_4 e180_5 e180_6 e180_7 e180_8 e180_9 e180_10 e180_11 e180_12 e180_13 e180_14 e180_15 e180_16 e180_17 e180_18 e180_19 e180_20 e180_21 e180_22 R180)
          have Ks180 : rR s180 7 = rR σ 7 := by (try simp only [rR_sF, rR_sA, rR_sT, rR_sL] at e180_0 e180_1 e180_2 e180_3 e180_4 e180_5 e180_6 e180_7 e180_8 e180_9 e180_10 e180_11 e180_12 e180_13 e180_14 e180_15 e180_16 e180_17 e180_18 e180_19 e180_20 e180_21 e180_22 R180); omega
          have A180 : rF s180 0 10 = 0 → RG σ s180 (rR σ 7) 0 := fun hf => RG.trk hp_2 (RG.tst hp_2 (A127 (by omega)) (by decide) (by omega)) R180 (by omega)
          have F_180 := fun (hf : rF s180 0 10 = 0) => MI.rg hp_2 R180 (F_h171 (by omega))
          have rNMp_180 := e180_0 rNMp_127
          have TPRp_180 := e180_1 TPRp_127
          have WNp_180 := e180_2 WNp_127
          have PNp_180 := e180_3 PNp_127
          have CCp_180 := e180_4 CCp_127
          exact (by (try simp only [inv_X14_readMember_45, mu_X14_readMember_45, mu_X14_readMember_45, Ks180]); (all_goals (repeat' (first | with_reducible intro _ | with_reducible apply And.intro))); all_goals (first | assumption | trivial | (unfold NBP; (try simp only [Ks180]); omega) | (unfold NBQ; (try simp only [Ks180]); omega) | (exact (A180 (by omega))) | (exact (F_180 (by omega)).cst) | omega | (split <;> omega) | done))
        · refine ⟨(by (try simp only [Ks127]); (all_goals (repeat' (first | with_reducible intro _ | with_reducible apply And.intro))); all_goals (first | assumption | trivial | (unfold NBP; (try simp only [Ks127]); omega) | (unfold NBQ; (try simp only [Ks127]); omega) | (exact (A127 (by omega))) | (exact (F_127 (by omega)).cst) | (exact Z0_127 (by omega)) | (exact Z5_127 (by omega)) | (exact (P_127 (by omega)).cst) | (exact Pn_127 (by omega)) | omega | (split <;> omega) | done)), ?_⟩
          have F_h187 : rF s127 0 10 = 0 → MI (sT s127 (rR σ 7) 2 y45_1 v105) (rR σ 7) y45_1 v105 (rF σ 0 31) (rF σ (rR σ 7) 32) (rF s127 (rR σ 7) 7) (rF s127 (rR σ 7) 32) := fun hf => MI.p0 hp_2 (F_127 (by omega)) ((P_127 (by omega)).cst) (Pn_127 (by omega))
          refine ⟨(by (try simp only [pre_X14_blanks, reduceIte, and_true, true_and, and_false, false_and, and_self, rF_sA, rA_sA, rR_sA, rF_sT, rA_sT, rR_sT, sT_sF, TPRp_sT hp_2, WNp_sT hp_2, VMp_sT hp_2, KYp_sT hp_2, PPp_sT hp_2, WFp_sT hp_2, CCp_sT hp_2, rNMp_sT2, PNp_sT2, Ks127]); (all_goals (repeat' (first | with_reducible intro _ | with_reducible apply And.intro))); all_goals (first | assumption | trivial | (unfold NBP; (try simp only [reduceIte, and_true, true_and, and_false, false_and, and_self, rF_sA, rA_sA, rR_sA, rF_sT, rA_sT, rR_sT, sT_sF, TPRp_sT hp_2, WNp_sT hp_2, VMp_sT hp_2, KYp_sT hp_2, PPp_sT hp_2, WFp_sT hp_2, CCp_sT hp_2, rNMp_sT2, PNp_sT2, Ks127]); omega) | (unfold NBQ; (try simp only [reduceIte, and_true, true_and, and_false, false_and, and_self, rF_sA, rA_sA, rR_sA, rF_sT, rA_sT, rR_sT, sT_sF, TPRp_sT hp_2, WNp_sT hp_2, VMp_sT hp_2, KYp_sT hp_2, PPp_sT hp_2, WFp_sT hp_2, CCp_sT hp_2, rNMp_sT2, PNp_sT2, Ks127]); omega) | (exact (RG.tst hp_2 (A127 (by omega)) (by decide) (by omega))) | (exact (F_h187 (by omega)).cst) | omega | (split <;> omega) | done)), ?_⟩
          intro s180 Ws180 e180_0 e180_1 e180_2 e180_3 e180_4 e180_5 e180_6 e180_7 e180_8 e180_9 e180_10 e180_11 e180_12 e180_13 e180_14 e180_15 e180_16 e180_17 e180_18 e180_19 e180_20 e180_21 e180_22 R180 q180
          unfold post_X14_blanks at q180
          obtain ⟨q180_1, q180_2⟩ := q180
          (try simp only [reduceIte, and_true, true_and, and_false, false_and, and_self, rF_sA, rA_sA, rR_sA, rF_sT, rA_sT, rR_sT, sT_sF, TPRp_sT hp_2, WNp_sT hp_2, VMp_sT hp_2, KYp_sT hp_2, PPp_sT hp_2, WFp_sT hp_2, CCp_sT hp_2, rNMp_sT2, PNp_sT2, Ks127, NBP, NBQ] at q180_1 q180_2 e180_0 e180_1 e180_2 e180_3 e180_4 e180_5 e180_6 e180_7 e180_8 e180_9 e180_10 e180_11 e180_12 e180_13 e180_14 e180_15 e180_16 e180_17 e180_18 e180_19 e180_20 e180_21 e180_22 R180)
          have Ks180 : rR s180 7 = rR σ 7 := by (try simp only [rR_sF, rR_sA, rR_sT, rR_sL] at e180_0 e180_1 e180_2 e180_3 e180_4 e180_5 e180_6 e180_7 e180_8 e180_9 e180_10 e180_11 e180_12 e180_13 e180_14 e180_15 e180_16 e180_17 e180_18 e180_19 e180_20 e180_21 e180_22 R180); omega
          have A180 : rF s180 0 10 = 0 → RG σ s180 (rR σ 7) 0 := fun hf => RG.trk hp_2 (RG.tst hp_2 (A127 (by omega)) (by decide) (by omega)) R180 (by omega)
          have F_180 := fun (hf : rF s180 0 10 = 0) => MI.rg hp_2 R180 (F_h187 (by omega))
          have rNMp_180 := e180_0 rNMp_127
          have TPRp_180 := e180_1 TPRp_127
          have WNp_180 := e180_2 WNp_127
          have PNp_180 := e180_3 PNp_127
          have CCp_180 := e180_4 CCp_127
          exact (by (try simp only [inv_X14_readMember_45, mu_X14_readMember_45, mu_X14_readMember_45, Ks180]); (all_goals (repeat' (first | with_reducible intro _ | with_reducible apply And.intro))); all_goals (first | assumption | trivial | (unfold NBP; (try simp only [Ks180]); omega) | (unfold NBQ; (try simp only [Ks180]); omega) | (exact (A180 (by omega))) | (exact (F_180 (by omega)).cst) | omega | (split <;> omega) | done))
set_option maxHeartbeats 4000000 in
theorem vX14_readMember_45m (n : Nat) (σ : rS) (gg : Nat) (hwf : rWF σ) (hp : pre_X14_readMember σ gg) (hr : rk_X14_readMember σ gg ≤ n + 1) : VC_X14_readMember_45m n σ gg := by
  unfold pre_X14_readMember at hp
  obtain ⟨hp_1, hp_2, hp_3, hp_4, hp_5, hp_6, hp_7⟩ := hp
  subst hp_1
  unfold rk_X14_readMember at hr
  have hN := hp_4
  unfold NBP at hN
  have hC := hp_3
  unfold CCp at hC
  obtain ⟨hC1, hC⟩ := hC
  have hr2 : rF σ 0 10 = 0 → 16 * (21 - rF σ 0 31).toNat + 6 ≤ n + 1 := fun h => by rw [if_pos h] at hr; exact hr
  have hr3 : 6 ≤ n + 1 := by have := hr; split at this <;> omega
  unfold VC_X14_readMember_45m
  (try simp only [inv_X14_readMember_45, mu_X14_readMember_45]); (all_goals (repeat' (first | with_reducible intro _ | with_reducible apply And.intro))); all_goals (first | assumption | omega | grind (splits := 20))
