def VMp (σ : rS) : Prop := ∀ j, 0 ≤ j → j < 500 → 0 ≤ (rA σ 1051 (j)) ∧ (rA σ 1051 (j)) ≤ 100 ∧ ((rA σ 1046 (j)) = 4 → (rA σ 1051 (j)) ≤ 50) ∧ ((rA σ 1046 (j)) = 5 → (rA σ 1051 (j)) ≤ 12)
theorem VMp.keep {a b c d e : Nat} {s t : rS} (h : rKeep a b c d e s t) (hA46 : c.testBit 46 = false) (hA51 : c.testBit 51 = false) (hs : VMp s) : VMp t := by
  have ehA46 : ∀ i, rA t (1000 + 46) i = rA s (1000 + 46) i := fun i => h.A (f := 46) (by decide) hA46
  have ehA51 : ∀ i, rA t (1000 + 51) i = rA s (1000 + 51) i := fun i => h.A (f := 51) (by decide) hA51
  unfold VMp at *
  (try simp only [Nat.reduceAdd] at *)
  simp only [ehA46, ehA51] at *
  exact hs
theorem VMp_sL {σ : rS} {p : Nat} {i : Int} {x : Int64} : VMp (sL σ p i x) = VMp σ := rfl
theorem VMp_sF {σ : rS} {q f : Nat} {x : Int}  : VMp (sF σ q f x) = VMp σ := by
  simp only [VMp, rA_sF]
theorem VMp_sA {σ : rS} {p : Nat} {i x : Int} (h46 : p ≠ 1046) (h51 : p ≠ 1051) : VMp (sA σ p i x) = VMp σ := by
  simp only [VMp, rF_sA, A_sA_ne (Ne.symm h46), A_sA_ne (Ne.symm h51)]
theorem VMp_sF0 {σ : rS} {q : Nat} {x : Int} : VMp (sF σ q 0 x) = VMp σ := VMp_sF
theorem VMp_sA1 {σ : rS} {i x : Int} : VMp (sA σ 1001 i x) = VMp σ := VMp_sA (by decide) (by decide)
theorem VMp_sA2 {σ : rS} {i x : Int} : VMp (sA σ 1002 i x) = VMp σ := VMp_sA (by decide) (by decide)
theorem VMp_sF3 {σ : rS} {q : Nat} {x : Int} : VMp (sF σ q 3 x) = VMp σ := VMp_sF
theorem VMp_sA5 {σ : rS} {i x : Int} : VMp (sA σ 1005 i x) = VMp σ := VMp_sA (by decide) (by decide)
theorem VMp_sF10 {σ : rS} {q : Nat} {x : Int} : VMp (sF σ q 10 x) = VMp σ := VMp_sF
theorem VMp_sF11 {σ : rS} {q : Nat} {x : Int} : VMp (sF σ q 11 x) = VMp σ := VMp_sF
theorem VMp_sF12 {σ : rS} {q : Nat} {x : Int} : VMp (sF σ q 12 x) = VMp σ := VMp_sF
theorem VMp_sF13 {σ : rS} {q : Nat} {x : Int} : VMp (sF σ q 13 x) = VMp σ := VMp_sF
theorem VMp_sF14 {σ : rS} {q : Nat} {x : Int} : VMp (sF σ q 14 x) = VMp σ := VMp_sF
theorem VMp_sF16 {σ : rS} {q : Nat} {x : Int} : VMp (sF σ q 16 x) = VMp σ := VMp_sF
theorem VMp_sF17 {σ : rS} {q : Nat} {x : Int} : VMp (sF σ q 17 x) = VMp σ := VMp_sF
theorem VMp_sF18 {σ : rS} {q : Nat} {x : Int} : VMp (sF σ q 18 x) = VMp σ := VMp_sF
theorem VMp_sF19 {σ : rS} {q : Nat} {x : Int} : VMp (sF σ q 19 x) = VMp σ := VMp_sF
theorem VMp_sA20 {σ : rS} {i x : Int} : VMp (sA σ 1020 i x) = VMp σ := VMp_sA (by decide) (by decide)
theorem VMp_sF21 {σ : rS} {q : Nat} {x : Int} : VMp (sF σ q 21 x) = VMp σ := VMp_sF
theorem VMp_sF22 {σ : rS} {q : Nat} {x : Int} : VMp (sF σ q 22 x) = VMp σ := VMp_sF
theorem VMp_sF23 {σ : rS} {q : Nat} {x : Int} : VMp (sF σ q 23 x) = VMp σ := VMp_sF
theorem VMp_sF24 {σ : rS} {q : Nat} {x : Int} : VMp (sF σ q 24 x) = VMp σ := VMp_sF
theorem VMp_sF25 {σ : rS} {q : Nat} {x : Int} : VMp (sF σ q 25 x) = VMp σ := VMp_sF
theorem VMp_sA26 {σ : rS} {i x : Int} : VMp (sA σ 1026 i x) = VMp σ := VMp_sA (by decide) (by decide)
theorem VMp_sA27 {σ : rS} {i x : Int} : VMp (sA σ 1027 i x) = VMp σ := VMp_sA (by decide) (by decide)
theorem VMp_sF28 {σ : rS} {q : Nat} {x : Int} : VMp (sF σ q 28 x) = VMp σ := VMp_sF
theorem VMp_sF29 {σ : rS} {q : Nat} {x : Int} : VMp (sF σ q 29 x) = VMp σ := VMp_sF
theorem VMp_sF30 {σ : rS} {q : Nat} {x : Int} : VMp (sF σ q 30 x) = VMp σ := VMp_sF
theorem VMp_sF31 {σ : rS} {q : Nat} {x : Int} : VMp (sF σ q 31 x) = VMp σ := VMp_sF
theorem VMp_sF32 {σ : rS} {q : Nat} {x : Int} : VMp (sF σ q 32 x) = VMp σ := VMp_sF
theorem VMp_sF33 {σ : rS} {q : Nat} {x : Int} : VMp (sF σ q 33 x) = VMp σ := VMp_sF
theorem VMp_sA34 {σ : rS} {i x : Int} : VMp (sA σ 1034 i x) = VMp σ := VMp_sA (by decide) (by decide)
theorem VMp_sA35 {σ : rS} {i x : Int} : VMp (sA σ 1035 i x) = VMp σ := VMp_sA (by decide) (by decide)
theorem VMp_sA36 {σ : rS} {i x : Int} : VMp (sA σ 1036 i x) = VMp σ := VMp_sA (by decide) (by decide)
theorem VMp_sA37 {σ : rS} {i x : Int} : VMp (sA σ 1037 i x) = VMp σ := VMp_sA (by decide) (by decide)
theorem VMp_sF38 {σ : rS} {q : Nat} {x : Int} : VMp (sF σ q 38 x) = VMp σ := VMp_sF
theorem VMp_sF39 {σ : rS} {q : Nat} {x : Int} : VMp (sF σ q 39 x) = VMp σ := VMp_sF
theorem VMp_sA40 {σ : rS} {i x : Int} : VMp (sA σ 1040 i x) = VMp σ := VMp_sA (by decide) (by decide)
theorem VMp_sF41 {σ : rS} {q : Nat} {x : Int} : VMp (sF σ q 41 x) = VMp σ := VMp_sF
theorem VMp_sF42 {σ : rS} {q : Nat} {x : Int} : VMp (sF σ q 42 x) = VMp σ := VMp_sF
theorem VMp_sF43 {σ : rS} {q : Nat} {x : Int} : VMp (sF σ q 43 x) = VMp σ := VMp_sF
theorem VMp_sF44 {σ : rS} {q : Nat} {x : Int} : VMp (sF σ q 44 x) = VMp σ := VMp_sF
theorem VMp_sF45 {σ : rS} {q : Nat} {x : Int} : VMp (sF σ q 45 x) = VMp σ := VMp_sF
theorem VMp_sA47 {σ : rS} {i x : Int} : VMp (sA σ 1047 i x) = VMp σ := VMp_sA (by decide) (by decide)
theorem VMp_sA48 {σ : rS} {i x : Int} : VMp (sA σ 1048 i x) = VMp σ := VMp_sA (by decide) (by decide)
theorem VMp_sA49 {σ : rS} {i x : Int} : VMp (sA σ 1049 i x) = VMp σ := VMp_sA (by decide) (by decide)
theorem VMp_sA50 {σ : rS} {i x : Int} : VMp (sA σ 1050 i x) = VMp σ := VMp_sA (by decide) (by decide)
theorem VMp_sA52 {σ : rS} {i x : Int} : VMp (sA σ 1052 i x) = VMp σ := VMp_sA (by decide) (by decide)
theorem VMp_sA53 {σ : rS} {i x : Int} : VMp (sA σ 1053 i x) = VMp σ := VMp_sA (by decide) (by decide)
theorem VMp_sA54 {σ : rS} {i x : Int} : VMp (sA σ 1054 i x) = VMp σ := VMp_sA (by decide) (by decide)
theorem VMp_sA55 {σ : rS} {i x : Int} : VMp (sA σ 1055 i x) = VMp σ := VMp_sA (by decide) (by decide)
theorem VMp_sA56 {σ : rS} {i x : Int} : VMp (sA σ 1056 i x) = VMp σ := VMp_sA (by decide) (by decide)
theorem VMp_sA57 {σ : rS} {i x : Int} : VMp (sA σ 1057 i x) = VMp σ := VMp_sA (by decide) (by decide)
theorem VMp_sA58 {σ : rS} {i x : Int} : VMp (sA σ 1058 i x) = VMp σ := VMp_sA (by decide) (by decide)
theorem VMp_sA59 {σ : rS} {i x : Int} : VMp (sA σ 1059 i x) = VMp σ := VMp_sA (by decide) (by decide)
theorem VMp_sF60 {σ : rS} {q : Nat} {x : Int} : VMp (sF σ q 60 x) = VMp σ := VMp_sF
theorem VMp_sA61 {σ : rS} {i x : Int} : VMp (sA σ 1061 i x) = VMp σ := VMp_sA (by decide) (by decide)
theorem VMp_sA62 {σ : rS} {i x : Int} : VMp (sA σ 1062 i x) = VMp σ := VMp_sA (by decide) (by decide)
theorem VMp_sA63 {σ : rS} {i x : Int} : VMp (sA σ 1063 i x) = VMp σ := VMp_sA (by decide) (by decide)
theorem VMp_sA64 {σ : rS} {i x : Int} : VMp (sA σ 1064 i x) = VMp σ := VMp_sA (by decide) (by decide)
theorem VMp_sF65 {σ : rS} {q : Nat} {x : Int} : VMp (sF σ q 65 x) = VMp σ := VMp_sF
theorem VMp_sF66 {σ : rS} {q : Nat} {x : Int} : VMp (sF σ q 66 x) = VMp σ := VMp_sF
theorem VMp_sF67 {σ : rS} {q : Nat} {x : Int} : VMp (sF σ q 67 x) = VMp σ := VMp_sF
theorem VMp_sF68 {σ : rS} {q : Nat} {x : Int} : VMp (sF σ q 68 x) = VMp σ := VMp_sF
theorem VMp_sA69 {σ : rS} {i x : Int} : VMp (sA σ 1069 i x) = VMp σ := VMp_sA (by decide) (by decide)
theorem VMp_sF70 {σ : rS} {q : Nat} {x : Int} : VMp (sF σ q 70 x) = VMp σ := VMp_sF
theorem VMp_sF71 {σ : rS} {q : Nat} {x : Int} : VMp (sF σ q 71 x) = VMp σ := VMp_sF
theorem VMp_sF72 {σ : rS} {q : Nat} {x : Int} : VMp (sF σ q 72 x) = VMp σ := VMp_sF
theorem VMp_sF73 {σ : rS} {q : Nat} {x : Int} : VMp (sF σ q 73 x) = VMp σ := VMp_sF
theorem VMp_sF74 {σ : rS} {q : Nat} {x : Int} : VMp (sF σ q 74 x) = VMp σ := VMp_sF
theorem VMp_sA75 {σ : rS} {i x : Int} : VMp (sA σ 1075 i x) = VMp σ := VMp_sA (by decide) (by decide)
theorem VMp_sA76 {σ : rS} {i x : Int} : VMp (sA σ 1076 i x) = VMp σ := VMp_sA (by decide) (by decide)
theorem VMp_sA77 {σ : rS} {i x : Int} : VMp (sA σ 1077 i x) = VMp σ := VMp_sA (by decide) (by decide)
theorem VMp_sA78 {σ : rS} {i x : Int} : VMp (sA σ 1078 i x) = VMp σ := VMp_sA (by decide) (by decide)
theorem VMp_sA79 {σ : rS} {i x : Int} : VMp (sA σ 1079 i x) = VMp σ := VMp_sA (by decide) (by decide)
theorem VMp_sF80 {σ : rS} {q : Nat} {x : Int} : VMp (sF σ q 80 x) = VMp σ := VMp_sF
theorem VMp_sF81 {σ : rS} {q : Nat} {x : Int} : VMp (sF σ q 81 x) = VMp σ := VMp_sF
theorem VMp_sF82 {σ : rS} {q : Nat} {x : Int} : VMp (sF σ q 82 x) = VMp σ := VMp_sF
theorem VMp_sF83 {σ : rS} {q : Nat} {x : Int} : VMp (sF σ q 83 x) = VMp σ := VMp_sF
theorem VMp_sA84 {σ : rS} {i x : Int} : VMp (sA σ 1084 i x) = VMp σ := VMp_sA (by decide) (by decide)
theorem VMp_sA85 {σ : rS} {i x : Int} : VMp (sA σ 1085 i x) = VMp σ := VMp_sA (by decide) (by decide)
theorem VMp_sA86 {σ : rS} {i x : Int} : VMp (sA σ 1086 i x) = VMp σ := VMp_sA (by decide) (by decide)
theorem VMp_sA87 {σ : rS} {i x : Int} : VMp (sA σ 1087 i x) = VMp σ := VMp_sA (by decide) (by decide)
theorem VMp_sF88 {σ : rS} {q : Nat} {x : Int} : VMp (sF σ q 88 x) = VMp σ := VMp_sF
theorem VMp_sA89 {σ : rS} {i x : Int} : VMp (sA σ 1089 i x) = VMp σ := VMp_sA (by decide) (by decide)
theorem VMp_sA90 {σ : rS} {i x : Int} : VMp (sA σ 1090 i x) = VMp σ := VMp_sA (by decide) (by decide)
theorem VMp_sA91 {σ : rS} {i x : Int} : VMp (sA σ 1091 i x) = VMp σ := VMp_sA (by decide) (by decide)
theorem VMp_sF92 {σ : rS} {q : Nat} {x : Int} : VMp (sF σ q 92 x) = VMp σ := VMp_sF
theorem VMp_sA93 {σ : rS} {i x : Int} : VMp (sA σ 1093 i x) = VMp σ := VMp_sA (by decide) (by decide)
theorem VMp_sF94 {σ : rS} {q : Nat} {x : Int} : VMp (sF σ q 94 x) = VMp σ := VMp_sF
theorem VMp_sF96 {σ : rS} {q : Nat} {x : Int} : VMp (sF σ q 96 x) = VMp σ := VMp_sF
theorem VMp_sF97 {σ : rS} {q : Nat} {x : Int} : VMp (sF σ q 97 x) = VMp σ := VMp_sF
theorem VMp_sF98 {σ : rS} {q : Nat} {x : Int} : VMp (sF σ q 98 x) = VMp σ := VMp_sF
theorem VMp_sF99 {σ : rS} {q : Nat} {x : Int} : VMp (sF σ q 99 x) = VMp σ := VMp_sF
theorem VMp_sF100 {σ : rS} {q : Nat} {x : Int} : VMp (sF σ q 100 x) = VMp σ := VMp_sF
theorem VMp_sF101 {σ : rS} {q : Nat} {x : Int} : VMp (sF σ q 101 x) = VMp σ := VMp_sF
theorem VMp_sA102 {σ : rS} {i x : Int} : VMp (sA σ 1102 i x) = VMp σ := VMp_sA (by decide) (by decide)
theorem VMp_sF103 {σ : rS} {q : Nat} {x : Int} : VMp (sF σ q 103 x) = VMp σ := VMp_sF
theorem VMp_sF104 {σ : rS} {q : Nat} {x : Int} : VMp (sF σ q 104 x) = VMp σ := VMp_sF
theorem VMp_sA105 {σ : rS} {i x : Int} : VMp (sA σ 1105 i x) = VMp σ := VMp_sA (by decide) (by decide)
theorem VMp_sA106 {σ : rS} {i x : Int} : VMp (sA σ 1106 i x) = VMp σ := VMp_sA (by decide) (by decide)
theorem VMp_sA107 {σ : rS} {i x : Int} : VMp (sA σ 1107 i x) = VMp σ := VMp_sA (by decide) (by decide)
theorem VMp_sA108 {σ : rS} {i x : Int} : VMp (sA σ 1108 i x) = VMp σ := VMp_sA (by decide) (by decide)
theorem VMp_sA109 {σ : rS} {i x : Int} : VMp (sA σ 1109 i x) = VMp σ := VMp_sA (by decide) (by decide)
theorem VMp_sA110 {σ : rS} {i x : Int} : VMp (sA σ 1110 i x) = VMp σ := VMp_sA (by decide) (by decide)
theorem VMp_sA111 {σ : rS} {i x : Int} : VMp (sA σ 1111 i x) = VMp σ := VMp_sA (by decide) (by decide)
theorem VMp_sF112 {σ : rS} {q : Nat} {x : Int} : VMp (sF σ q 112 x) = VMp σ := VMp_sF
theorem VMp_sF113 {σ : rS} {q : Nat} {x : Int} : VMp (sF σ q 113 x) = VMp σ := VMp_sF
theorem VMp_sA114 {σ : rS} {i x : Int} : VMp (sA σ 1114 i x) = VMp σ := VMp_sA (by decide) (by decide)
theorem VMp_sA115 {σ : rS} {i x : Int} : VMp (sA σ 1115 i x) = VMp σ := VMp_sA (by decide) (by decide)
theorem VMp_sA116 {σ : rS} {i x : Int} : VMp (sA σ 1116 i x) = VMp σ := VMp_sA (by decide) (by decide)
theorem VMp_sA117 {σ : rS} {i x : Int} : VMp (sA σ 1117 i x) = VMp σ := VMp_sA (by decide) (by decide)
theorem VMp_sF118 {σ : rS} {q : Nat} {x : Int} : VMp (sF σ q 118 x) = VMp σ := VMp_sF
theorem VMp_sF119 {σ : rS} {q : Nat} {x : Int} : VMp (sF σ q 119 x) = VMp σ := VMp_sF
theorem VMp_sA120 {σ : rS} {i x : Int} : VMp (sA σ 1120 i x) = VMp σ := VMp_sA (by decide) (by decide)
theorem VMp_sA121 {σ : rS} {i x : Int} : VMp (sA σ 1121 i x) = VMp σ := VMp_sA (by decide) (by decide)
theorem VMp_sF122 {σ : rS} {q : Nat} {x : Int} : VMp (sF σ q 122 x) = VMp σ := VMp_sF
theorem VMp_sF123 {σ : rS} {q : Nat} {x : Int} : VMp (sF σ q 123 x) = VMp σ := VMp_sF
theorem VMp_sA124 {σ : rS} {i x : Int} : VMp (sA σ 1124 i x) = VMp σ := VMp_sA (by decide) (by decide)
theorem VMp_sA125 {σ : rS} {i x : Int} : VMp (sA σ 1125 i x) = VMp σ := VMp_sA (by decide) (by decide)
theorem VMp_sA126 {σ : rS} {i x : Int} : VMp (sA σ 1126 i x) = VMp σ := VMp_sA (by decide) (by decide)
theorem VMp_sA127 {σ : rS} {i x : Int} : VMp (sA σ 1127 i x) = VMp σ := VMp_sA (by decide) (by decide)
theorem VMp_sA128 {σ : rS} {i x : Int} : VMp (sA σ 1128 i x) = VMp σ := VMp_sA (by decide) (by decide)
theorem VMp_sA129 {σ : rS} {i x : Int} : VMp (sA σ 1129 i x) = VMp σ := VMp_sA (by decide) (by decide)
theorem VMp_sF135 {σ : rS} {q : Nat} {x : Int} : VMp (sF σ q 135 x) = VMp σ := VMp_sF
theorem VMp_sA136 {σ : rS} {i x : Int} : VMp (sA σ 1136 i x) = VMp σ := VMp_sA (by decide) (by decide)
theorem VMp_sF137 {σ : rS} {q : Nat} {x : Int} : VMp (sF σ q 137 x) = VMp σ := VMp_sF
theorem VMp_sA138 {σ : rS} {i x : Int} : VMp (sA σ 1138 i x) = VMp σ := VMp_sA (by decide) (by decide)
theorem VMp_gA0 {σ : rS} {k : Nat} {i x : Int} : VMp (sA σ (1000 * (k + 1) + 0) i x) = VMp σ := VMp_sA (by omega) (by omega)
theorem VMp_gA1 {σ : rS} {k : Nat} {i x : Int} : VMp (sA σ (1000 * (k + 1) + 1) i x) = VMp σ := VMp_sA (by omega) (by omega)
theorem VMp_gA2 {σ : rS} {k : Nat} {i x : Int} : VMp (sA σ (1000 * (k + 1) + 2) i x) = VMp σ := VMp_sA (by omega) (by omega)
theorem VMp_gA3 {σ : rS} {k : Nat} {i x : Int} : VMp (sA σ (1000 * (k + 1) + 3) i x) = VMp σ := VMp_sA (by omega) (by omega)
theorem VMp_gA4 {σ : rS} {k : Nat} {i x : Int} : VMp (sA σ (1000 * (k + 1) + 4) i x) = VMp σ := VMp_sA (by omega) (by omega)
theorem VMp_gA5 {σ : rS} {k : Nat} {i x : Int} : VMp (sA σ (1000 * (k + 1) + 5) i x) = VMp σ := VMp_sA (by omega) (by omega)
theorem VMp_gA6 {σ : rS} {k : Nat} {i x : Int} : VMp (sA σ (1000 * (k + 1) + 6) i x) = VMp σ := VMp_sA (by omega) (by omega)
theorem VMp_sF7 {σ : rS} {q : Nat} {x : Int} : VMp (sF σ q 7 x) = VMp σ := VMp_sF
theorem VMp_gA8 {σ : rS} {k : Nat} {i x : Int} : VMp (sA σ (1000 * (k + 1) + 8) i x) = VMp σ := VMp_sA (by omega) (by omega)
theorem VMp_sF9 {σ : rS} {q : Nat} {x : Int} : VMp (sF σ q 9 x) = VMp σ := VMp_sF
theorem VMp_gA10 {σ : rS} {k : Nat} {i x : Int} : VMp (sA σ (1000 * (k + 1) + 10) i x) = VMp σ := VMp_sA (by omega) (by omega)
theorem VMp_gA11 {σ : rS} {k : Nat} {i x : Int} : VMp (sA σ (1000 * (k + 1) + 11) i x) = VMp σ := VMp_sA (by omega) (by omega)
theorem VMp_gA15 {σ : rS} {k : Nat} {i x : Int} : VMp (sA σ (1000 * (k + 1) + 15) i x) = VMp σ := VMp_sA (by omega) (by omega)
theorem VMp_gA16 {σ : rS} {k : Nat} {i x : Int} : VMp (sA σ (1000 * (k + 1) + 16) i x) = VMp σ := VMp_sA (by omega) (by omega)
theorem VMp_gA17 {σ : rS} {k : Nat} {i x : Int} : VMp (sA σ (1000 * (k + 1) + 17) i x) = VMp σ := VMp_sA (by omega) (by omega)
theorem VMp_gA18 {σ : rS} {k : Nat} {i x : Int} : VMp (sA σ (1000 * (k + 1) + 18) i x) = VMp σ := VMp_sA (by omega) (by omega)
theorem VMp_gA19 {σ : rS} {k : Nat} {i x : Int} : VMp (sA σ (1000 * (k + 1) + 19) i x) = VMp σ := VMp_sA (by omega) (by omega)
theorem VMp_gA20 {σ : rS} {k : Nat} {i x : Int} : VMp (sA σ (1000 * (k + 1) + 20) i x) = VMp σ := VMp_sA (by omega) (by omega)
theorem VMp_gA21 {σ : rS} {k : Nat} {i x : Int} : VMp (sA σ (1000 * (k + 1) + 21) i x) = VMp σ := VMp_sA (by omega) (by omega)
theorem VMp_gA22 {σ : rS} {k : Nat} {i x : Int} : VMp (sA σ (1000 * (k + 1) + 22) i x) = VMp σ := VMp_sA (by omega) (by omega)
theorem VMp_gA23 {σ : rS} {k : Nat} {i x : Int} : VMp (sA σ (1000 * (k + 1) + 23) i x) = VMp σ := VMp_sA (by omega) (by omega)
theorem VMp_gA24 {σ : rS} {k : Nat} {i x : Int} : VMp (sA σ (1000 * (k + 1) + 24) i x) = VMp σ := VMp_sA (by omega) (by omega)
theorem VMp_gA25 {σ : rS} {k : Nat} {i x : Int} : VMp (sA σ (1000 * (k + 1) + 25) i x) = VMp σ := VMp_sA (by omega) (by omega)
theorem VMp_gA26 {σ : rS} {k : Nat} {i x : Int} : VMp (sA σ (1000 * (k + 1) + 26) i x) = VMp σ := VMp_sA (by omega) (by omega)
theorem VMp_gA27 {σ : rS} {k : Nat} {i x : Int} : VMp (sA σ (1000 * (k + 1) + 27) i x) = VMp σ := VMp_sA (by omega) (by omega)
theorem VMp_gA29 {σ : rS} {k : Nat} {i x : Int} : VMp (sA σ (1000 * (k + 1) + 29) i x) = VMp σ := VMp_sA (by omega) (by omega)
theorem VMp_gA30 {σ : rS} {k : Nat} {i x : Int} : VMp (sA σ (1000 * (k + 1) + 30) i x) = VMp σ := VMp_sA (by omega) (by omega)
theorem VMp_gA31 {σ : rS} {k : Nat} {i x : Int} : VMp (sA σ (1000 * (k + 1) + 31) i x) = VMp σ := VMp_sA (by omega) (by omega)
theorem VMp_gA33 {σ : rS} {k : Nat} {i x : Int} : VMp (sA σ (1000 * (k + 1) + 33) i x) = VMp σ := VMp_sA (by omega) (by omega)
theorem VMp_gA34 {σ : rS} {k : Nat} {i x : Int} : VMp (sA σ (1000 * (k + 1) + 34) i x) = VMp σ := VMp_sA (by omega) (by omega)
theorem VMp_gA35 {σ : rS} {k : Nat} {i x : Int} : VMp (sA σ (1000 * (k + 1) + 35) i x) = VMp σ := VMp_sA (by omega) (by omega)
theorem VMp_gA36 {σ : rS} {k : Nat} {i x : Int} : VMp (sA σ (1000 * (k + 1) + 36) i x) = VMp σ := VMp_sA (by omega) (by omega)
theorem VMp_gA37 {σ : rS} {k : Nat} {i x : Int} : VMp (sA σ (1000 * (k + 1) + 37) i x) = VMp σ := VMp_sA (by omega) (by omega)
def KYp (σ : rS) : Prop := ∀ j, 0 ≤ j → j < 25000 → 0 ≤ (rA σ 1053 (j)) ∧ 0 ≤ (rA σ 1054 (j)) ∧ (rA σ 1053 (j)) + (rA σ 1054 (j)) ≤ 16000
theorem KYp.keep {a b c d e : Nat} {s t : rS} (h : rKeep a b c d e s t) (hA53 : c.testBit 53 = false) (hA54 : c.testBit 54 = false) (hs : KYp s) : KYp t := by
  have ehA53 : ∀ i, rA t (1000 + 53) i = rA s (1000 + 53) i := fun i => h.A (f := 53) (by decide) hA53
  have ehA54 : ∀ i, rA t (1000 + 54) i = rA s (1000 + 54) i := fun i => h.A (f := 54) (by decide) hA54
  unfold KYp at *
  (try simp only [Nat.reduceAdd] at *)
  simp only [ehA53, ehA54] at *
  exact hs
theorem KYp_sL {σ : rS} {p : Nat} {i : Int} {x : Int64} : KYp (sL σ p i x) = KYp σ := rfl
theorem KYp_sF {σ : rS} {q f : Nat} {x : Int}  : KYp (sF σ q f x) = KYp σ := by
  simp only [KYp, rA_sF]
theorem KYp_sA {σ : rS} {p : Nat} {i x : Int} (h53 : p ≠ 1053) (h54 : p ≠ 1054) : KYp (sA σ p i x) = KYp σ := by
  simp only [KYp, rF_sA, A_sA_ne (Ne.symm h53), A_sA_ne (Ne.symm h54)]
theorem KYp_sF0 {σ : rS} {q : Nat} {x : Int} : KYp (sF σ q 0 x) = KYp σ := KYp_sF
theorem KYp_sA1 {σ : rS} {i x : Int} : KYp (sA σ 1001 i x) = KYp σ := KYp_sA (by decide) (by decide)
theorem KYp_sA2 {σ : rS} {i x : Int} : KYp (sA σ 1002 i x) = KYp σ := KYp_sA (by decide) (by decide)
theorem KYp_sF3 {σ : rS} {q : Nat} {x : Int} : KYp (sF σ q 3 x) = KYp σ := KYp_sF
theorem KYp_sA5 {σ : rS} {i x : Int} : KYp (sA σ 1005 i x) = KYp σ := KYp_sA (by decide) (by decide)
theorem KYp_sF10 {σ : rS} {q : Nat} {x : Int} : KYp (sF σ q 10 x) = KYp σ := KYp_sF
theorem KYp_sF11 {σ : rS} {q : Nat} {x : Int} : KYp (sF σ q 11 x) = KYp σ := KYp_sF
theorem KYp_sF12 {σ : rS} {q : Nat} {x : Int} : KYp (sF σ q 12 x) = KYp σ := KYp_sF
theorem KYp_sF13 {σ : rS} {q : Nat} {x : Int} : KYp (sF σ q 13 x) = KYp σ := KYp_sF
theorem KYp_sF14 {σ : rS} {q : Nat} {x : Int} : KYp (sF σ q 14 x) = KYp σ := KYp_sF
theorem KYp_sF16 {σ : rS} {q : Nat} {x : Int} : KYp (sF σ q 16 x) = KYp σ := KYp_sF
theorem KYp_sF17 {σ : rS} {q : Nat} {x : Int} : KYp (sF σ q 17 x) = KYp σ := KYp_sF
theorem KYp_sF18 {σ : rS} {q : Nat} {x : Int} : KYp (sF σ q 18 x) = KYp σ := KYp_sF
theorem KYp_sF19 {σ : rS} {q : Nat} {x : Int} : KYp (sF σ q 19 x) = KYp σ := KYp_sF
theorem KYp_sA20 {σ : rS} {i x : Int} : KYp (sA σ 1020 i x) = KYp σ := KYp_sA (by decide) (by decide)
theorem KYp_sF21 {σ : rS} {q : Nat} {x : Int} : KYp (sF σ q 21 x) = KYp σ := KYp_sF
theorem KYp_sF22 {σ : rS} {q : Nat} {x : Int} : KYp (sF σ q 22 x) = KYp σ := KYp_sF
theorem KYp_sF23 {σ : rS} {q : Nat} {x : Int} : KYp (sF σ q 23 x) = KYp σ := KYp_sF
theorem KYp_sF24 {σ : rS} {q : Nat} {x : Int} : KYp (sF σ q 24 x) = KYp σ := KYp_sF
theorem KYp_sF25 {σ : rS} {q : Nat} {x : Int} : KYp (sF σ q 25 x) = KYp σ := KYp_sF
theorem KYp_sA26 {σ : rS} {i x : Int} : KYp (sA σ 1026 i x) = KYp σ := KYp_sA (by decide) (by decide)
theorem KYp_sA27 {σ : rS} {i x : Int} : KYp (sA σ 1027 i x) = KYp σ := KYp_sA (by decide) (by decide)
theorem KYp_sF28 {σ : rS} {q : Nat} {x : Int} : KYp (sF σ q 28 x) = KYp σ := KYp_sF
theorem KYp_sF29 {σ : rS} {q : Nat} {x : Int} : KYp (sF σ q 29 x) = KYp σ := KYp_sF
theorem KYp_sF30 {σ : rS} {q : Nat} {x : Int} : KYp (sF σ q 30 x) = KYp σ := KYp_sF
theorem KYp_sF31 {σ : rS} {q : Nat} {x : Int} : KYp (sF σ q 31 x) = KYp σ := KYp_sF
theorem KYp_sF32 {σ : rS} {q : Nat} {x : Int} : KYp (sF σ q 32 x) = KYp σ := KYp_sF
theorem KYp_sF33 {σ : rS} {q : Nat} {x : Int} : KYp (sF σ q 33 x) = KYp σ := KYp_sF
theorem KYp_sA34 {σ : rS} {i x : Int} : KYp (sA σ 1034 i x) = KYp σ := KYp_sA (by decide) (by decide)
theorem KYp_sA35 {σ : rS} {i x : Int} : KYp (sA σ 1035 i x) = KYp σ := KYp_sA (by decide) (by decide)
theorem KYp_sA36 {σ : rS} {i x : Int} : KYp (sA σ 1036 i x) = KYp σ := KYp_sA (by decide) (by decide)
theorem KYp_sA37 {σ : rS} {i x : Int} : KYp (sA σ 1037 i x) = KYp σ := KYp_sA (by decide) (by decide)
theorem KYp_sF38 {σ : rS} {q : Nat} {x : Int} : KYp (sF σ q 38 x) = KYp σ := KYp_sF
theorem KYp_sF39 {σ : rS} {q : Nat} {x : Int} : KYp (sF σ q 39 x) = KYp σ := KYp_sF
theorem KYp_sA40 {σ : rS} {i x : Int} : KYp (sA σ 1040 i x) = KYp σ := KYp_sA (by decide) (by decide)
theorem KYp_sF41 {σ : rS} {q : Nat} {x : Int} : KYp (sF σ q 41 x) = KYp σ := KYp_sF
theorem KYp_sF42 {σ : rS} {q : Nat} {x : Int} : KYp (sF σ q 42 x) = KYp σ := KYp_sF
theorem KYp_sF43 {σ : rS} {q : Nat} {x : Int} : KYp (sF σ q 43 x) = KYp σ := KYp_sF
theorem KYp_sF44 {σ : rS} {q : Nat} {x : Int} : KYp (sF σ q 44 x) = KYp σ := KYp_sF
theorem KYp_sF45 {σ : rS} {q : Nat} {x : Int} : KYp (sF σ q 45 x) = KYp σ := KYp_sF
theorem KYp_sA46 {σ : rS} {i x : Int} : KYp (sA σ 1046 i x) = KYp σ := KYp_sA (by decide) (by decide)
theorem KYp_sA47 {σ : rS} {i x : Int} : KYp (sA σ 1047 i x) = KYp σ := KYp_sA (by decide) (by decide)
theorem KYp_sA48 {σ : rS} {i x : Int} : KYp (sA σ 1048 i x) = KYp σ := KYp_sA (by decide) (by decide)
theorem KYp_sA49 {σ : rS} {i x : Int} : KYp (sA σ 1049 i x) = KYp σ := KYp_sA (by decide) (by decide)
theorem KYp_sA50 {σ : rS} {i x : Int} : KYp (sA σ 1050 i x) = KYp σ := KYp_sA (by decide) (by decide)
theorem KYp_sA51 {σ : rS} {i x : Int} : KYp (sA σ 1051 i x) = KYp σ := KYp_sA (by decide) (by decide)
theorem KYp_sA52 {σ : rS} {i x : Int} : KYp (sA σ 1052 i x) = KYp σ := KYp_sA (by decide) (by decide)
theorem KYp_sA55 {σ : rS} {i x : Int} : KYp (sA σ 1055 i x) = KYp σ := KYp_sA (by decide) (by decide)
theorem KYp_sA56 {σ : rS} {i x : Int} : KYp (sA σ 1056 i x) = KYp σ := KYp_sA (by decide) (by decide)
theorem KYp_sA57 {σ : rS} {i x : Int} : KYp (sA σ 1057 i x) = KYp σ := KYp_sA (by decide) (by decide)
theorem KYp_sA58 {σ : rS} {i x : Int} : KYp (sA σ 1058 i x) = KYp σ := KYp_sA (by decide) (by decide)
theorem KYp_sA59 {σ : rS} {i x : Int} : KYp (sA σ 1059 i x) = KYp σ := KYp_sA (by decide) (by decide)
theorem KYp_sF60 {σ : rS} {q : Nat} {x : Int} : KYp (sF σ q 60 x) = KYp σ := KYp_sF
theorem KYp_sA61 {σ : rS} {i x : Int} : KYp (sA σ 1061 i x) = KYp σ := KYp_sA (by decide) (by decide)
theorem KYp_sA62 {σ : rS} {i x : Int} : KYp (sA σ 1062 i x) = KYp σ := KYp_sA (by decide) (by decide)
theorem KYp_sA63 {σ : rS} {i x : Int} : KYp (sA σ 1063 i x) = KYp σ := KYp_sA (by decide) (by decide)
theorem KYp_sA64 {σ : rS} {i x : Int} : KYp (sA σ 1064 i x) = KYp σ := KYp_sA (by decide) (by decide)
theorem KYp_sF65 {σ : rS} {q : Nat} {x : Int} : KYp (sF σ q 65 x) = KYp σ := KYp_sF
theorem KYp_sF66 {σ : rS} {q : Nat} {x : Int} : KYp (sF σ q 66 x) = KYp σ := KYp_sF
theorem KYp_sF67 {σ : rS} {q : Nat} {x : Int} : KYp (sF σ q 67 x) = KYp σ := KYp_sF
theorem KYp_sF68 {σ : rS} {q : Nat} {x : Int} : KYp (sF σ q 68 x) = KYp σ := KYp_sF
theorem KYp_sA69 {σ : rS} {i x : Int} : KYp (sA σ 1069 i x) = KYp σ := KYp_sA (by decide) (by decide)
theorem KYp_sF70 {σ : rS} {q : Nat} {x : Int} : KYp (sF σ q 70 x) = KYp σ := KYp_sF
theorem KYp_sF71 {σ : rS} {q : Nat} {x : Int} : KYp (sF σ q 71 x) = KYp σ := KYp_sF
theorem KYp_sF72 {σ : rS} {q : Nat} {x : Int} : KYp (sF σ q 72 x) = KYp σ := KYp_sF
theorem KYp_sF73 {σ : rS} {q : Nat} {x : Int} : KYp (sF σ q 73 x) = KYp σ := KYp_sF
theorem KYp_sF74 {σ : rS} {q : Nat} {x : Int} : KYp (sF σ q 74 x) = KYp σ := KYp_sF
theorem KYp_sA75 {σ : rS} {i x : Int} : KYp (sA σ 1075 i x) = KYp σ := KYp_sA (by decide) (by decide)
theorem KYp_sA76 {σ : rS} {i x : Int} : KYp (sA σ 1076 i x) = KYp σ := KYp_sA (by decide) (by decide)
theorem KYp_sA77 {σ : rS} {i x : Int} : KYp (sA σ 1077 i x) = KYp σ := KYp_sA (by decide) (by decide)
theorem KYp_sA78 {σ : rS} {i x : Int} : KYp (sA σ 1078 i x) = KYp σ := KYp_sA (by decide) (by decide)
theorem KYp_sA79 {σ : rS} {i x : Int} : KYp (sA σ 1079 i x) = KYp σ := KYp_sA (by decide) (by decide)
theorem KYp_sF80 {σ : rS} {q : Nat} {x : Int} : KYp (sF σ q 80 x) = KYp σ := KYp_sF
theorem KYp_sF81 {σ : rS} {q : Nat} {x : Int} : KYp (sF σ q 81 x) = KYp σ := KYp_sF
theorem KYp_sF82 {σ : rS} {q : Nat} {x : Int} : KYp (sF σ q 82 x) = KYp σ := KYp_sF
theorem KYp_sF83 {σ : rS} {q : Nat} {x : Int} : KYp (sF σ q 83 x) = KYp σ := KYp_sF
theorem KYp_sA84 {σ : rS} {i x : Int} : KYp (sA σ 1084 i x) = KYp σ := KYp_sA (by decide) (by decide)
theorem KYp_sA85 {σ : rS} {i x : Int} : KYp (sA σ 1085 i x) = KYp σ := KYp_sA (by decide) (by decide)
theorem KYp_sA86 {σ : rS} {i x : Int} : KYp (sA σ 1086 i x) = KYp σ := KYp_sA (by decide) (by decide)
theorem KYp_sA87 {σ : rS} {i x : Int} : KYp (sA σ 1087 i x) = KYp σ := KYp_sA (by decide) (by decide)
theorem KYp_sF88 {σ : rS} {q : Nat} {x : Int} : KYp (sF σ q 88 x) = KYp σ := KYp_sF
theorem KYp_sA89 {σ : rS} {i x : Int} : KYp (sA σ 1089 i x) = KYp σ := KYp_sA (by decide) (by decide)
theorem KYp_sA90 {σ : rS} {i x : Int} : KYp (sA σ 1090 i x) = KYp σ := KYp_sA (by decide) (by decide)
theorem KYp_sA91 {σ : rS} {i x : Int} : KYp (sA σ 1091 i x) = KYp σ := KYp_sA (by decide) (by decide)
theorem KYp_sF92 {σ : rS} {q : Nat} {x : Int} : KYp (sF σ q 92 x) = KYp σ := KYp_sF
theorem KYp_sA93 {σ : rS} {i x : Int} : KYp (sA σ 1093 i x) = KYp σ := KYp_sA (by decide) (by decide)
theorem KYp_sF94 {σ : rS} {q : Nat} {x : Int} : KYp (sF σ q 94 x) = KYp σ := KYp_sF
theorem KYp_sF96 {σ : rS} {q : Nat} {x : Int} : KYp (sF σ q 96 x) = KYp σ := KYp_sF
theorem KYp_sF97 {σ : rS} {q : Nat} {x : Int} : KYp (sF σ q 97 x) = KYp σ := KYp_sF
theorem KYp_sF98 {σ : rS} {q : Nat} {x : Int} : KYp (sF σ q 98 x) = KYp σ := KYp_sF
theorem KYp_sF99 {σ : rS} {q : Nat} {x : Int} : KYp (sF σ q 99 x) = KYp σ := KYp_sF
theorem KYp_sF100 {σ : rS} {q : Nat} {x : Int} : KYp (sF σ q 100 x) = KYp σ := KYp_sF
theorem KYp_sF101 {σ : rS} {q : Nat} {x : Int} : KYp (sF σ q 101 x) = KYp σ := KYp_sF
theorem KYp_sA102 {σ : rS} {i x : Int} : KYp (sA σ 1102 i x) = KYp σ := KYp_sA (by decide) (by decide)
theorem KYp_sF103 {σ : rS} {q : Nat} {x : Int} : KYp (sF σ q 103 x) = KYp σ := KYp_sF
theorem KYp_sF104 {σ : rS} {q : Nat} {x : Int} : KYp (sF σ q 104 x) = KYp σ := KYp_sF
theorem KYp_sA105 {σ : rS} {i x : Int} : KYp (sA σ 1105 i x) = KYp σ := KYp_sA (by decide) (by decide)
theorem KYp_sA106 {σ : rS} {i x : Int} : KYp (sA σ 1106 i x) = KYp σ := KYp_sA (by decide) (by decide)
theorem KYp_sA107 {σ : rS} {i x : Int} : KYp (sA σ 1107 i x) = KYp σ := KYp_sA (by decide) (by decide)
theorem KYp_sA108 {σ : rS} {i x : Int} : KYp (sA σ 1108 i x) = KYp σ := KYp_sA (by decide) (by decide)
theorem KYp_sA109 {σ : rS} {i x : Int} : KYp (sA σ 1109 i x) = KYp σ := KYp_sA (by decide) (by decide)
theorem KYp_sA110 {σ : rS} {i x : Int} : KYp (sA σ 1110 i x) = KYp σ := KYp_sA (by decide) (by decide)
theorem KYp_sA111 {σ : rS} {i x : Int} : KYp (sA σ 1111 i x) = KYp σ := KYp_sA (by decide) (by decide)
theorem KYp_sF112 {σ : rS} {q : Nat} {x : Int} : KYp (sF σ q 112 x) = KYp σ := KYp_sF
theorem KYp_sF113 {σ : rS} {q : Nat} {x : Int} : KYp (sF σ q 113 x) = KYp σ := KYp_sF
theorem KYp_sA114 {σ : rS} {i x : Int} : KYp (sA σ 1114 i x) = KYp σ := KYp_sA (by decide) (by decide)
theorem KYp_sA115 {σ : rS} {i x : Int} : KYp (sA σ 1115 i x) = KYp σ := KYp_sA (by decide) (by decide)
theorem KYp_sA116 {σ : rS} {i x : Int} : KYp (sA σ 1116 i x) = KYp σ := KYp_sA (by decide) (by decide)
theorem KYp_sA117 {σ : rS} {i x : Int} : KYp (sA σ 1117 i x) = KYp σ := KYp_sA (by decide) (by decide)
theorem KYp_sF118 {σ : rS} {q : Nat} {x : Int} : KYp (sF σ q 118 x) = KYp σ := KYp_sF
theorem KYp_sF119 {σ : rS} {q : Nat} {x : Int} : KYp (sF σ q 119 x) = KYp σ := KYp_sF
theorem KYp_sA120 {σ : rS} {i x : Int} : KYp (sA σ 1120 i x) = KYp σ := KYp_sA (by decide) (by decide)
theorem KYp_sA121 {σ : rS} {i x : Int} : KYp (sA σ 1121 i x) = KYp σ := KYp_sA (by decide) (by decide)
theorem KYp_sF122 {σ : rS} {q : Nat} {x : Int} : KYp (sF σ q 122 x) = KYp σ := KYp_sF
theorem KYp_sF123 {σ : rS} {q : Nat} {x : Int} : KYp (sF σ q 123 x) = KYp σ := KYp_sF
theorem KYp_sA124 {σ : rS} {i x : Int} : KYp (sA σ 1124 i x) = KYp σ := KYp_sA (by decide) (by decide)
theorem KYp_sA125 {σ : rS} {i x : Int} : KYp (sA σ 1125 i x) = KYp σ := KYp_sA (by decide) (by decide)
theorem KYp_sA126 {σ : rS} {i x : Int} : KYp (sA σ 1126 i x) = KYp σ := KYp_sA (by decide) (by decide)
theorem KYp_sA127 {σ : rS} {i x : Int} : KYp (sA σ 1127 i x) = KYp σ := KYp_sA (by decide) (by decide)
theorem KYp_sA128 {σ : rS} {i x : Int} : KYp (sA σ 1128 i x) = KYp σ := KYp_sA (by decide) (by decide)
theorem KYp_sA129 {σ : rS} {i x : Int} : KYp (sA σ 1129 i x) = KYp σ := KYp_sA (by decide) (by decide)
theorem KYp_sF135 {σ : rS} {q : Nat} {x : Int} : KYp (sF σ q 135 x) = KYp σ := KYp_sF
theorem KYp_sA136 {σ : rS} {i x : Int} : KYp (sA σ 1136 i x) = KYp σ := KYp_sA (by decide) (by decide)
theorem KYp_sF137 {σ : rS} {q : Nat} {x : Int} : KYp (sF σ q 137 x) = KYp σ := KYp_sF
theorem KYp_sA138 {σ : rS} {i x : Int} : KYp (sA σ 1138 i x) = KYp σ := KYp_sA (by decide) (by decide)
theorem KYp_gA0 {σ : rS} {k : Nat} {i x : Int} : KYp (sA σ (1000 * (k + 1) + 0) i x) = KYp σ := KYp_sA (by omega) (by omega)
theorem KYp_gA1 {σ : rS} {k : Nat} {i x : Int} : KYp (sA σ (1000 * (k + 1) + 1) i x) = KYp σ := KYp_sA (by omega) (by omega)
theorem KYp_gA2 {σ : rS} {k : Nat} {i x : Int} : KYp (sA σ (1000 * (k + 1) + 2) i x) = KYp σ := KYp_sA (by omega) (by omega)
theorem KYp_gA3 {σ : rS} {k : Nat} {i x : Int} : KYp (sA σ (1000 * (k + 1) + 3) i x) = KYp σ := KYp_sA (by omega) (by omega)
theorem KYp_gA4 {σ : rS} {k : Nat} {i x : Int} : KYp (sA σ (1000 * (k + 1) + 4) i x) = KYp σ := KYp_sA (by omega) (by omega)
theorem KYp_gA5 {σ : rS} {k : Nat} {i x : Int} : KYp (sA σ (1000 * (k + 1) + 5) i x) = KYp σ := KYp_sA (by omega) (by omega)
theorem KYp_gA6 {σ : rS} {k : Nat} {i x : Int} : KYp (sA σ (1000 * (k + 1) + 6) i x) = KYp σ := KYp_sA (by omega) (by omega)
theorem KYp_sF7 {σ : rS} {q : Nat} {x : Int} : KYp (sF σ q 7 x) = KYp σ := KYp_sF
theorem KYp_gA8 {σ : rS} {k : Nat} {i x : Int} : KYp (sA σ (1000 * (k + 1) + 8) i x) = KYp σ := KYp_sA (by omega) (by omega)
theorem KYp_sF9 {σ : rS} {q : Nat} {x : Int} : KYp (sF σ q 9 x) = KYp σ := KYp_sF
theorem KYp_gA10 {σ : rS} {k : Nat} {i x : Int} : KYp (sA σ (1000 * (k + 1) + 10) i x) = KYp σ := KYp_sA (by omega) (by omega)
theorem KYp_gA11 {σ : rS} {k : Nat} {i x : Int} : KYp (sA σ (1000 * (k + 1) + 11) i x) = KYp σ := KYp_sA (by omega) (by omega)
theorem KYp_gA15 {σ : rS} {k : Nat} {i x : Int} : KYp (sA σ (1000 * (k + 1) + 15) i x) = KYp σ := KYp_sA (by omega) (by omega)
theorem KYp_gA16 {σ : rS} {k : Nat} {i x : Int} : KYp (sA σ (1000 * (k + 1) + 16) i x) = KYp σ := KYp_sA (by omega) (by omega)
theorem KYp_gA17 {σ : rS} {k : Nat} {i x : Int} : KYp (sA σ (1000 * (k + 1) + 17) i x) = KYp σ := KYp_sA (by omega) (by omega)
theorem KYp_gA18 {σ : rS} {k : Nat} {i x : Int} : KYp (sA σ (1000 * (k + 1) + 18) i x) = KYp σ := KYp_sA (by omega) (by omega)
theorem KYp_gA19 {σ : rS} {k : Nat} {i x : Int} : KYp (sA σ (1000 * (k + 1) + 19) i x) = KYp σ := KYp_sA (by omega) (by omega)
theorem KYp_gA20 {σ : rS} {k : Nat} {i x : Int} : KYp (sA σ (1000 * (k + 1) + 20) i x) = KYp σ := KYp_sA (by omega) (by omega)
theorem KYp_gA21 {σ : rS} {k : Nat} {i x : Int} : KYp (sA σ (1000 * (k + 1) + 21) i x) = KYp σ := KYp_sA (by omega) (by omega)
theorem KYp_gA22 {σ : rS} {k : Nat} {i x : Int} : KYp (sA σ (1000 * (k + 1) + 22) i x) = KYp σ := KYp_sA (by omega) (by omega)
theorem KYp_gA23 {σ : rS} {k : Nat} {i x : Int} : KYp (sA σ (1000 * (k + 1) + 23) i x) = KYp σ := KYp_sA (by omega) (by omega)
theorem KYp_gA24 {σ : rS} {k : Nat} {i x : Int} : KYp (sA σ (1000 * (k + 1) + 24) i x) = KYp σ := KYp_sA (by omega) (by omega)
theorem KYp_gA25 {σ : rS} {k : Nat} {i x : Int} : KYp (sA σ (1000 * (k + 1) + 25) i x) = KYp σ := KYp_sA (by omega) (by omega)
theorem KYp_gA26 {σ : rS} {k : Nat} {i x : Int} : KYp (sA σ (1000 * (k + 1) + 26) i x) = KYp σ := KYp_sA (by omega) (by omega)
theorem KYp_gA27 {σ : rS} {k : Nat} {i x : Int} : KYp (sA σ (1000 * (k + 1) + 27) i x) = KYp σ := KYp_sA (by omega) (by omega)
theorem KYp_gA29 {σ : rS} {k : Nat} {i x : Int} : KYp (sA σ (1000 * (k + 1) + 29) i x) = KYp σ := KYp_sA (by omega) (by omega)
theorem KYp_gA30 {σ : rS} {k : Nat} {i x : Int} : KYp (sA σ (1000 * (k + 1) + 30) i x) = KYp σ := KYp_sA (by omega) (by omega)
theorem KYp_gA31 {σ : rS} {k : Nat} {i x : Int} : KYp (sA σ (1000 * (k + 1) + 31) i x) = KYp σ := KYp_sA (by omega) (by omega)
theorem KYp_gA33 {σ : rS} {k : Nat} {i x : Int} : KYp (sA σ (1000 * (k + 1) + 33) i x) = KYp σ := KYp_sA (by omega) (by omega)
theorem KYp_gA34 {σ : rS} {k : Nat} {i x : Int} : KYp (sA σ (1000 * (k + 1) + 34) i x) = KYp σ := KYp_sA (by omega) (by omega)
theorem KYp_gA35 {σ : rS} {k : Nat} {i x : Int} : KYp (sA σ (1000 * (k + 1) + 35) i x) = KYp σ := KYp_sA (by omega) (by omega)
theorem KYp_gA36 {σ : rS} {k : Nat} {i x : Int} : KYp (sA σ (1000 * (k + 1) + 36) i x) = KYp σ := KYp_sA (by omega) (by omega)
theorem KYp_gA37 {σ : rS} {k : Nat} {i x : Int} : KYp (sA σ (1000 * (k + 1) + 37) i x) = KYp σ := KYp_sA (by omega) (by omega)
def PPp (σ : rS) : Prop := ∀ j, 0 ≤ j → j < 6000 → 0 ≤ (rA σ 1056 (j)) ∧ 0 ≤ (rA σ 1057 (j)) ∧ (rA σ 1056 (j)) + (rA σ 1057 (j)) ≤ 16000
theorem PPp.keep {a b c d e : Nat} {s t : rS} (h : rKeep a b c d e s t) (hA56 : c.testBit 56 = false) (hA57 : c.testBit 57 = false) (hs : PPp s) : PPp t := by
  have ehA56 : ∀ i, rA t (1000 + 56) i = rA s (1000 + 56) i := fun i => h.A (f := 56) (by decide) hA56
  have ehA57 : ∀ i, rA t (1000 + 57) i = rA s (1000 + 57) i := fun i => h.A (f := 57) (by decide) hA57
  unfold PPp at *
  (try simp only [Nat.reduceAdd] at *)
  simp only [ehA56, ehA57] at *
  exact hs
theorem PPp_sL {σ : rS} {p : Nat} {i : Int} {x : Int64} : PPp (sL σ p i x) = PPp σ := rfl
theorem PPp_sF {σ : rS} {q f : Nat} {x : Int}  : PPp (sF σ q f x) = PPp σ := by
  simp only [PPp, rA_sF]
theorem PPp_sA {σ : rS} {p : Nat} {i x : Int} (h56 : p ≠ 1056) (h57 : p ≠ 1057) : PPp (sA σ p i x) = PPp σ := by
  simp only [PPp, rF_sA, A_sA_ne (Ne.symm h56), A_sA_ne (Ne.symm h57)]
theorem PPp_sF0 {σ : rS} {q : Nat} {x : Int} : PPp (sF σ q 0 x) = PPp σ := PPp_sF
theorem PPp_sA1 {σ : rS} {i x : Int} : PPp (sA σ 1001 i x) = PPp σ := PPp_sA (by decide) (by decide)
theorem PPp_sA2 {σ : rS} {i x : Int} : PPp (sA σ 1002 i x) = PPp σ := PPp_sA (by decide) (by decide)
theorem PPp_sF3 {σ : rS} {q : Nat} {x : Int} : PPp (sF σ q 3 x) = PPp σ := PPp_sF
theorem PPp_sA5 {σ : rS} {i x : Int} : PPp (sA σ 1005 i x) = PPp σ := PPp_sA (by decide) (by decide)
theorem PPp_sF10 {σ : rS} {q : Nat} {x : Int} : PPp (sF σ q 10 x) = PPp σ := PPp_sF
theorem PPp_sF11 {σ : rS} {q : Nat} {x : Int} : PPp (sF σ q 11 x) = PPp σ := PPp_sF
theorem PPp_sF12 {σ : rS} {q : Nat} {x : Int} : PPp (sF σ q 12 x) = PPp σ := PPp_sF
theorem PPp_sF13 {σ : rS} {q : Nat} {x : Int} : PPp (sF σ q 13 x) = PPp σ := PPp_sF
theorem PPp_sF14 {σ : rS} {q : Nat} {x : Int} : PPp (sF σ q 14 x) = PPp σ := PPp_sF
theorem PPp_sF16 {σ : rS} {q : Nat} {x : Int} : PPp (sF σ q 16 x) = PPp σ := PPp_sF
theorem PPp_sF17 {σ : rS} {q : Nat} {x : Int} : PPp (sF σ q 17 x) = PPp σ := PPp_sF
theorem PPp_sF18 {σ : rS} {q : Nat} {x : Int} : PPp (sF σ q 18 x) = PPp σ := PPp_sF
theorem PPp_sF19 {σ : rS} {q : Nat} {x : Int} : PPp (sF σ q 19 x) = PPp σ := PPp_sF
theorem PPp_sA20 {σ : rS} {i x : Int} : PPp (sA σ 1020 i x) = PPp σ := PPp_sA (by decide) (by decide)
theorem PPp_sF21 {σ : rS} {q : Nat} {x : Int} : PPp (sF σ q 21 x) = PPp σ := PPp_sF
theorem PPp_sF22 {σ : rS} {q : Nat} {x : Int} : PPp (sF σ q 22 x) = PPp σ := PPp_sF
theorem PPp_sF23 {σ : rS} {q : Nat} {x : Int} : PPp (sF σ q 23 x) = PPp σ := PPp_sF
theorem PPp_sF24 {σ : rS} {q : Nat} {x : Int} : PPp (sF σ q 24 x) = PPp σ := PPp_sF
theorem PPp_sF25 {σ : rS} {q : Nat} {x : Int} : PPp (sF σ q 25 x) = PPp σ := PPp_sF
theorem PPp_sA26 {σ : rS} {i x : Int} : PPp (sA σ 1026 i x) = PPp σ := PPp_sA (by decide) (by decide)
theorem PPp_sA27 {σ : rS} {i x : Int} : PPp (sA σ 1027 i x) = PPp σ := PPp_sA (by decide) (by decide)
theorem PPp_sF28 {σ : rS} {q : Nat} {x : Int} : PPp (sF σ q 28 x) = PPp σ := PPp_sF
theorem PPp_sF29 {σ : rS} {q : Nat} {x : Int} : PPp (sF σ q 29 x) = PPp σ := PPp_sF
theorem PPp_sF30 {σ : rS} {q : Nat} {x : Int} : PPp (sF σ q 30 x) = PPp σ := PPp_sF
theorem PPp_sF31 {σ : rS} {q : Nat} {x : Int} : PPp (sF σ q 31 x) = PPp σ := PPp_sF
theorem PPp_sF32 {σ : rS} {q : Nat} {x : Int} : PPp (sF σ q 32 x) = PPp σ := PPp_sF
theorem PPp_sF33 {σ : rS} {q : Nat} {x : Int} : PPp (sF σ q 33 x) = PPp σ := PPp_sF
theorem PPp_sA34 {σ : rS} {i x : Int} : PPp (sA σ 1034 i x) = PPp σ := PPp_sA (by decide) (by decide)
theorem PPp_sA35 {σ : rS} {i x : Int} : PPp (sA σ 1035 i x) = PPp σ := PPp_sA (by decide) (by decide)
theorem PPp_sA36 {σ : rS} {i x : Int} : PPp (sA σ 1036 i x) = PPp σ := PPp_sA (by decide) (by decide)
theorem PPp_sA37 {σ : rS} {i x : Int} : PPp (sA σ 1037 i x) = PPp σ := PPp_sA (by decide) (by decide)
theorem PPp_sF38 {σ : rS} {q : Nat} {x : Int} : PPp (sF σ q 38 x) = PPp σ := PPp_sF
theorem PPp_sF39 {σ : rS} {q : Nat} {x : Int} : PPp (sF σ q 39 x) = PPp σ := PPp_sF
theorem PPp_sA40 {σ : rS} {i x : Int} : PPp (sA σ 1040 i x) = PPp σ := PPp_sA (by decide) (by decide)
theorem PPp_sF41 {σ : rS} {q : Nat} {x : Int} : PPp (sF σ q 41 x) = PPp σ := PPp_sF
theorem PPp_sF42 {σ : rS} {q : Nat} {x : Int} : PPp (sF σ q 42 x) = PPp σ := PPp_sF
theorem PPp_sF43 {σ : rS} {q : Nat} {x : Int} : PPp (sF σ q 43 x) = PPp σ := PPp_sF
theorem PPp_sF44 {σ : rS} {q : Nat} {x : Int} : PPp (sF σ q 44 x) = PPp σ := PPp_sF
theorem PPp_sF45 {σ : rS} {q : Nat} {x : Int} : PPp (sF σ q 45 x) = PPp σ := PPp_sF
theorem PPp_sA46 {σ : rS} {i x : Int} : PPp (sA σ 1046 i x) = PPp σ := PPp_sA (by decide) (by decide)
theorem PPp_sA47 {σ : rS} {i x : Int} : PPp (sA σ 1047 i x) = PPp σ := PPp_sA (by decide) (by decide)
theorem PPp_sA48 {σ : rS} {i x : Int} : PPp (sA σ 1048 i x) = PPp σ := PPp_sA (by decide) (by decide)
theorem PPp_sA49 {σ : rS} {i x : Int} : PPp (sA σ 1049 i x) = PPp σ := PPp_sA (by decide) (by decide)
theorem PPp_sA50 {σ : rS} {i x : Int} : PPp (sA σ 1050 i x) = PPp σ := PPp_sA (by decide) (by decide)
theorem PPp_sA51 {σ : rS} {i x : Int} : PPp (sA σ 1051 i x) = PPp σ := PPp_sA (by decide) (by decide)
theorem PPp_sA52 {σ : rS} {i x : Int} : PPp (sA σ 1052 i x) = PPp σ := PPp_sA (by decide) (by decide)
theorem PPp_sA53 {σ : rS} {i x : Int} : PPp (sA σ 1053 i x) = PPp σ := PPp_sA (by decide) (by decide)
theorem PPp_sA54 {σ : rS} {i x : Int} : PPp (sA σ 1054 i x) = PPp σ := PPp_sA (by decide) (by decide)
theorem PPp_sA55 {σ : rS} {i x : Int} : PPp (sA σ 1055 i x) = PPp σ := PPp_sA (by decide) (by decide)
theorem PPp_sA58 {σ : rS} {i x : Int} : PPp (sA σ 1058 i x) = PPp σ := PPp_sA (by decide) (by decide)
theorem PPp_sA59 {σ : rS} {i x : Int} : PPp (sA σ 1059 i x) = PPp σ := PPp_sA (by decide) (by decide)
theorem PPp_sF60 {σ : rS} {q : Nat} {x : Int} : PPp (sF σ q 60 x) = PPp σ := PPp_sF
theorem PPp_sA61 {σ : rS} {i x : Int} : PPp (sA σ 1061 i x) = PPp σ := PPp_sA (by decide) (by decide)
theorem PPp_sA62 {σ : rS} {i x : Int} : PPp (sA σ 1062 i x) = PPp σ := PPp_sA (by decide) (by decide)
theorem PPp_sA63 {σ : rS} {i x : Int} : PPp (sA σ 1063 i x) = PPp σ := PPp_sA (by decide) (by decide)
theorem PPp_sA64 {σ : rS} {i x : Int} : PPp (sA σ 1064 i x) = PPp σ := PPp_sA (by decide) (by decide)
theorem PPp_sF65 {σ : rS} {q : Nat} {x : Int} : PPp (sF σ q 65 x) = PPp σ := PPp_sF
theorem PPp_sF66 {σ : rS} {q : Nat} {x : Int} : PPp (sF σ q 66 x) = PPp σ := PPp_sF
theorem PPp_sF67 {σ : rS} {q : Nat} {x : Int} : PPp (sF σ q 67 x) = PPp σ := PPp_sF
theorem PPp_sF68 {σ : rS} {q : Nat} {x : Int} : PPp (sF σ q 68 x) = PPp σ := PPp_sF
theorem PPp_sA69 {σ : rS} {i x : Int} : PPp (sA σ 1069 i x) = PPp σ := PPp_sA (by decide) (by decide)
theorem PPp_sF70 {σ : rS} {q : Nat} {x : Int} : PPp (sF σ q 70 x) = PPp σ := PPp_sF
theorem PPp_sF71 {σ : rS} {q : Nat} {x : Int} : PPp (sF σ q 71 x) = PPp σ := PPp_sF
theorem PPp_sF72 {σ : rS} {q : Nat} {x : Int} : PPp (sF σ q 72 x) = PPp σ := PPp_sF
theorem PPp_sF73 {σ : rS} {q : Nat} {x : Int} : PPp (sF σ q 73 x) = PPp σ := PPp_sF
theorem PPp_sF74 {σ : rS} {q : Nat} {x : Int} : PPp (sF σ q 74 x) = PPp σ := PPp_sF
theorem PPp_sA75 {σ : rS} {i x : Int} : PPp (sA σ 1075 i x) = PPp σ := PPp_sA (by decide) (by decide)
theorem PPp_sA76 {σ : rS} {i x : Int} : PPp (sA σ 1076 i x) = PPp σ := PPp_sA (by decide) (by decide)
theorem PPp_sA77 {σ : rS} {i x : Int} : PPp (sA σ 1077 i x) = PPp σ := PPp_sA (by decide) (by decide)
theorem PPp_sA78 {σ : rS} {i x : Int} : PPp (sA σ 1078 i x) = PPp σ := PPp_sA (by decide) (by decide)
theorem PPp_sA79 {σ : rS} {i x : Int} : PPp (sA σ 1079 i x) = PPp σ := PPp_sA (by decide) (by decide)
theorem PPp_sF80 {σ : rS} {q : Nat} {x : Int} : PPp (sF σ q 80 x) = PPp σ := PPp_sF
theorem PPp_sF81 {σ : rS} {q : Nat} {x : Int} : PPp (sF σ q 81 x) = PPp σ := PPp_sF
theorem PPp_sF82 {σ : rS} {q : Nat} {x : Int} : PPp (sF σ q 82 x) = PPp σ := PPp_sF
theorem PPp_sF83 {σ : rS} {q : Nat} {x : Int} : PPp (sF σ q 83 x) = PPp σ := PPp_sF
theorem PPp_sA84 {σ : rS} {i x : Int} : PPp (sA σ 1084 i x) = PPp σ := PPp_sA (by decide) (by decide)
theorem PPp_sA85 {σ : rS} {i x : Int} : PPp (sA σ 1085 i x) = PPp σ := PPp_sA (by decide) (by decide)
theorem PPp_sA86 {σ : rS} {i x : Int} : PPp (sA σ 1086 i x) = PPp σ := PPp_sA (by decide) (by decide)
theorem PPp_sA87 {σ : rS} {i x : Int} : PPp (sA σ 1087 i x) = PPp σ := PPp_sA (by decide) (by decide)
theorem PPp_sF88 {σ : rS} {q : Nat} {x : Int} : PPp (sF σ q 88 x) = PPp σ := PPp_sF
theorem PPp_sA89 {σ : rS} {i x : Int} : PPp (sA σ 1089 i x) = PPp σ := PPp_sA (by decide) (by decide)
theorem PPp_sA90 {σ : rS} {i x : Int} : PPp (sA σ 1090 i x) = PPp σ := PPp_sA (by decide) (by decide)
theorem PPp_sA91 {σ : rS} {i x : Int} : PPp (sA σ 1091 i x) = PPp σ := PPp_sA (by decide) (by decide)
theorem PPp_sF92 {σ : rS} {q : Nat} {x : Int} : PPp (sF σ q 92 x) = PPp σ := PPp_sF
theorem PPp_sA93 {σ : rS} {i x : Int} : PPp (sA σ 1093 i x) = PPp σ := PPp_sA (by decide) (by decide)
theorem PPp_sF94 {σ : rS} {q : Nat} {x : Int} : PPp (sF σ q 94 x) = PPp σ := PPp_sF
theorem PPp_sF96 {σ : rS} {q : Nat} {x : Int} : PPp (sF σ q 96 x) = PPp σ := PPp_sF
theorem PPp_sF97 {σ : rS} {q : Nat} {x : Int} : PPp (sF σ q 97 x) = PPp σ := PPp_sF
theorem PPp_sF98 {σ : rS} {q : Nat} {x : Int} : PPp (sF σ q 98 x) = PPp σ := PPp_sF
theorem PPp_sF99 {σ : rS} {q : Nat} {x : Int} : PPp (sF σ q 99 x) = PPp σ := PPp_sF
theorem PPp_sF100 {σ : rS} {q : Nat} {x : Int} : PPp (sF σ q 100 x) = PPp σ := PPp_sF
theorem PPp_sF101 {σ : rS} {q : Nat} {x : Int} : PPp (sF σ q 101 x) = PPp σ := PPp_sF
theorem PPp_sA102 {σ : rS} {i x : Int} : PPp (sA σ 1102 i x) = PPp σ := PPp_sA (by decide) (by decide)
theorem PPp_sF103 {σ : rS} {q : Nat} {x : Int} : PPp (sF σ q 103 x) = PPp σ := PPp_sF
theorem PPp_sF104 {σ : rS} {q : Nat} {x : Int} : PPp (sF σ q 104 x) = PPp σ := PPp_sF
theorem PPp_sA105 {σ : rS} {i x : Int} : PPp (sA σ 1105 i x) = PPp σ := PPp_sA (by decide) (by decide)
theorem PPp_sA106 {σ : rS} {i x : Int} : PPp (sA σ 1106 i x) = PPp σ := PPp_sA (by decide) (by decide)
theorem PPp_sA107 {σ : rS} {i x : Int} : PPp (sA σ 1107 i x) = PPp σ := PPp_sA (by decide) (by decide)
theorem PPp_sA108 {σ : rS} {i x : Int} : PPp (sA σ 1108 i x) = PPp σ := PPp_sA (by decide) (by decide)
theorem PPp_sA109 {σ : rS} {i x : Int} : PPp (sA σ 1109 i x) = PPp σ := PPp_sA (by decide) (by decide)
theorem PPp_sA110 {σ : rS} {i x : Int} : PPp (sA σ 1110 i x) = PPp σ := PPp_sA (by decide) (by decide)
theorem PPp_sA111 {σ : rS} {i x : Int} : PPp (sA σ 1111 i x) = PPp σ := PPp_sA (by decide) (by decide)
theorem PPp_sF112 {σ : rS} {q : Nat} {x : Int} : PPp (sF σ q 112 x) = PPp σ := PPp_sF
theorem PPp_sF113 {σ : rS} {q : Nat} {x : Int} : PPp (sF σ q 113 x) = PPp σ := PPp_sF
theorem PPp_sA114 {σ : rS} {i x : Int} : PPp (sA σ 1114 i x) = PPp σ := PPp_sA (by decide) (by decide)
theorem PPp_sA115 {σ : rS} {i x : Int} : PPp (sA σ 1115 i x) = PPp σ := PPp_sA (by decide) (by decide)
theorem PPp_sA116 {σ : rS} {i x : Int} : PPp (sA σ 1116 i x) = PPp σ := PPp_sA (by decide) (by decide)
theorem PPp_sA117 {σ : rS} {i x : Int} : PPp (sA σ 1117 i x) = PPp σ := PPp_sA (by decide) (by decide)
theorem PPp_sF118 {σ : rS} {q : Nat} {x : Int} : PPp (sF σ q 118 x) = PPp σ := PPp_sF
theorem PPp_sF119 {σ : rS} {q : Nat} {x : Int} : PPp (sF σ q 119 x) = PPp σ := PPp_sF
theorem PPp_sA120 {σ : rS} {i x : Int} : PPp (sA σ 1120 i x) = PPp σ := PPp_sA (by decide) (by decide)
theorem PPp_sA121 {σ : rS} {i x : Int} : PPp (sA σ 1121 i x) = PPp σ := PPp_sA (by decide) (by decide)
theorem PPp_sF122 {σ : rS} {q : Nat} {x : Int} : PPp (sF σ q 122 x) = PPp σ := PPp_sF
theorem PPp_sF123 {σ : rS} {q : Nat} {x : Int} : PPp (sF σ q 123 x) = PPp σ := PPp_sF
theorem PPp_sA124 {σ : rS} {i x : Int} : PPp (sA σ 1124 i x) = PPp σ := PPp_sA (by decide) (by decide)
theorem PPp_sA125 {σ : rS} {i x : Int} : PPp (sA σ 1125 i x) = PPp σ := PPp_sA (by decide) (by decide)
theorem PPp_sA126 {σ : rS} {i x : Int} : PPp (sA σ 1126 i x) = PPp σ := PPp_sA (by decide) (by decide)
theorem PPp_sA127 {σ : rS} {i x : Int} : PPp (sA σ 1127 i x) = PPp σ := PPp_sA (by decide) (by decide)
theorem PPp_sA128 {σ : rS} {i x : Int} : PPp (sA σ 1128 i x) = PPp σ := PPp_sA (by decide) (by decide)
theorem PPp_sA129 {σ : rS} {i x : Int} : PPp (sA σ 1129 i x) = PPp σ := PPp_sA (by decide) (by decide)
theorem PPp_sF135 {σ : rS} {q : Nat} {x : Int} : PPp (sF σ q 135 x) = PPp σ := PPp_sF
theorem PPp_sA136 {σ : rS} {i x : Int} : PPp (sA σ 1136 i x) = PPp σ := PPp_sA (by decide) (by decide)
theorem PPp_sF137 {σ : rS} {q : Nat} {x : Int} : PPp (sF σ q 137 x) = PPp σ := PPp_sF
theorem PPp_sA138 {σ : rS} {i x : Int} : PPp (sA σ 1138 i x) = PPp σ := PPp_sA (by decide) (by decide)
theorem PPp_gA0 {σ : rS} {k : Nat} {i x : Int} : PPp (sA σ (1000 * (k + 1) + 0) i x) = PPp σ := PPp_sA (by omega) (by omega)
theorem PPp_gA1 {σ : rS} {k : Nat} {i x : Int} : PPp (sA σ (1000 * (k + 1) + 1) i x) = PPp σ := PPp_sA (by omega) (by omega)
theorem PPp_gA2 {σ : rS} {k : Nat} {i x : Int} : PPp (sA σ (1000 * (k + 1) + 2) i x) = PPp σ := PPp_sA (by omega) (by omega)
theorem PPp_gA3 {σ : rS} {k : Nat} {i x : Int} : PPp (sA σ (1000 * (k + 1) + 3) i x) = PPp σ := PPp_sA (by omega) (by omega)
theorem PPp_gA4 {σ : rS} {k : Nat} {i x : Int} : PPp (sA σ (1000 * (k + 1) + 4) i x) = PPp σ := PPp_sA (by omega) (by omega)
theorem PPp_gA5 {σ : rS} {k : Nat} {i x : Int} : PPp (sA σ (1000 * (k + 1) + 5) i x) = PPp σ := PPp_sA (by omega) (by omega)
theorem PPp_gA6 {σ : rS} {k : Nat} {i x : Int} : PPp (sA σ (1000 * (k + 1) + 6) i x) = PPp σ := PPp_sA (by omega) (by omega)
theorem PPp_sF7 {σ : rS} {q : Nat} {x : Int} : PPp (sF σ q 7 x) = PPp σ := PPp_sF
theorem PPp_gA8 {σ : rS} {k : Nat} {i x : Int} : PPp (sA σ (1000 * (k + 1) + 8) i x) = PPp σ := PPp_sA (by omega) (by omega)
theorem PPp_sF9 {σ : rS} {q : Nat} {x : Int} : PPp (sF σ q 9 x) = PPp σ := PPp_sF
theorem PPp_gA10 {σ : rS} {k : Nat} {i x : Int} : PPp (sA σ (1000 * (k + 1) + 10) i x) = PPp σ := PPp_sA (by omega) (by omega)
theorem PPp_gA11 {σ : rS} {k : Nat} {i x : Int} : PPp (sA σ (1000 * (k + 1) + 11) i x) = PPp σ := PPp_sA (by omega) (by omega)
theorem PPp_gA15 {σ : rS} {k : Nat} {i x : Int} : PPp (sA σ (1000 * (k + 1) + 15) i x) = PPp σ := PPp_sA (by omega) (by omega)
theorem PPp_gA16 {σ : rS} {k : Nat} {i x : Int} : PPp (sA σ (1000 * (k + 1) + 16) i x) = PPp σ := PPp_sA (by omega) (by omega)
theorem PPp_gA17 {σ : rS} {k : Nat} {i x : Int} : PPp (sA σ (1000 * (k + 1) + 17) i x) = PPp σ := PPp_sA (by omega) (by omega)
theorem PPp_gA18 {σ : rS} {k : Nat} {i x : Int} : PPp (sA σ (1000 * (k + 1) + 18) i x) = PPp σ := PPp_sA (by omega) (by omega)
theorem PPp_gA19 {σ : rS} {k : Nat} {i x : Int} : PPp (sA σ (1000 * (k + 1) + 19) i x) = PPp σ := PPp_sA (by omega) (by omega)
theorem PPp_gA20 {σ : rS} {k : Nat} {i x : Int} : PPp (sA σ (1000 * (k + 1) + 20) i x) = PPp σ := PPp_sA (by omega) (by omega)
theorem PPp_gA21 {σ : rS} {k : Nat} {i x : Int} : PPp (sA σ (1000 * (k + 1) + 21) i x) = PPp σ := PPp_sA (by omega) (by omega)
theorem PPp_gA22 {σ : rS} {k : Nat} {i x : Int} : PPp (sA σ (1000 * (k + 1) + 22) i x) = PPp σ := PPp_sA (by omega) (by omega)
theorem PPp_gA23 {σ : rS} {k : Nat} {i x : Int} : PPp (sA σ (1000 * (k + 1) + 23) i x) = PPp σ := PPp_sA (by omega) (by omega)
theorem PPp_gA24 {σ : rS} {k : Nat} {i x : Int} : PPp (sA σ (1000 * (k + 1) + 24) i x) = PPp σ := PPp_sA (by omega) (by omega)
theorem PPp_gA25 {σ : rS} {k : Nat} {i x : Int} : PPp (sA σ (1000 * (k + 1) + 25) i x) = PPp σ := PPp_sA (by omega) (by omega)
theorem PPp_gA26 {σ : rS} {k : Nat} {i x : Int} : PPp (sA σ (1000 * (k + 1) + 26) i x) = PPp σ := PPp_sA (by omega) (by omega)
theorem PPp_gA27 {σ : rS} {k : Nat} {i x : Int} : PPp (sA σ (1000 * (k + 1) + 27) i x) = PPp σ := PPp_sA (by omega) (by omega)
theorem PPp_gA29 {σ : rS} {k : Nat} {i x : Int} : PPp (sA σ (1000 * (k + 1) + 29) i x) = PPp σ := PPp_sA (by omega) (by omega)
theorem PPp_gA30 {σ : rS} {k : Nat} {i x : Int} : PPp (sA σ (1000 * (k + 1) + 30) i x) = PPp σ := PPp_sA (by omega) (by omega)
theorem PPp_gA31 {σ : rS} {k : Nat} {i x : Int} : PPp (sA σ (1000 * (k + 1) + 31) i x) = PPp σ := PPp_sA (by omega) (by omega)
theorem PPp_gA33 {σ : rS} {k : Nat} {i x : Int} : PPp (sA σ (1000 * (k + 1) + 33) i x) = PPp σ := PPp_sA (by omega) (by omega)
theorem PPp_gA34 {σ : rS} {k : Nat} {i x : Int} : PPp (sA σ (1000 * (k + 1) + 34) i x) = PPp σ := PPp_sA (by omega) (by omega)
theorem PPp_gA35 {σ : rS} {k : Nat} {i x : Int} : PPp (sA σ (1000 * (k + 1) + 35) i x) = PPp σ := PPp_sA (by omega) (by omega)
theorem PPp_gA36 {σ : rS} {k : Nat} {i x : Int} : PPp (sA σ (1000 * (k + 1) + 36) i x) = PPp σ := PPp_sA (by omega) (by omega)
theorem PPp_gA37 {σ : rS} {k : Nat} {i x : Int} : PPp (sA σ (1000 * (k + 1) + 37) i x) = PPp σ := PPp_sA (by omega) (by omega)
def WFp (σ : rS) : Prop := ∀ j, 0 ≤ j → j < 500 → 0 ≤ (rA σ 1049 (j)) ∧ 0 ≤ (rA σ 1050 (j)) ∧ (rA σ 1050 (j)) ≤ 4000 ∧ (rA σ 1049 (j)) + (rA σ 1050 (j)) ≤ 16000
theorem WFp.keep {a b c d e : Nat} {s t : rS} (h : rKeep a b c d e s t) (hA49 : c.testBit 49 = false) (hA50 : c.testBit 50 = false) (hs : WFp s) : WFp t := by
  have ehA49 : ∀ i, rA t (1000 + 49) i = rA s (1000 + 49) i := fun i => h.A (f := 49) (by decide) hA49
  have ehA50 : ∀ i, rA t (1000 + 50) i = rA s (1000 + 50) i := fun i => h.A (f := 50) (by decide) hA50
  unfold WFp at *
  (try simp only [Nat.reduceAdd] at *)
  simp only [ehA49, ehA50] at *
  exact hs
theorem WFp_sL {σ : rS} {p : Nat} {i : Int} {x : Int64} : WFp (sL σ p i x) = WFp σ := rfl
theorem WFp_sF {σ : rS} {q f : Nat} {x : Int}  : WFp (sF σ q f x) = WFp σ := by
  simp only [WFp, rA_sF]
theorem WFp_sA {σ : rS} {p : Nat} {i x : Int} (h49 : p ≠ 1049) (h50 : p ≠ 1050) : WFp (sA σ p i x) = WFp σ := by
  simp only [WFp, rF_sA, A_sA_ne (Ne.symm h49), A_sA_ne (Ne.symm h50)]
theorem WFp_sF0 {σ : rS} {q : Nat} {x : Int} : WFp (sF σ q 0 x) = WFp σ := WFp_sF
theorem WFp_sA1 {σ : rS} {i x : Int} : WFp (sA σ 1001 i x) = WFp σ := WFp_sA (by decide) (by decide)
theorem WFp_sA2 {σ : rS} {i x : Int} : WFp (sA σ 1002 i x) = WFp σ := WFp_sA (by decide) (by decide)
theorem WFp_sF3 {σ : rS} {q : Nat} {x : Int} : WFp (sF σ q 3 x) = WFp σ := WFp_sF
theorem WFp_sA5 {σ : rS} {i x : Int} : WFp (sA σ 1005 i x) = WFp σ := WFp_sA (by decide) (by decide)
theorem WFp_sF10 {σ : rS} {q : Nat} {x : Int} : WFp (sF σ q 10 x) = WFp σ := WFp_sF
theorem WFp_sF11 {σ : rS} {q : Nat} {x : Int} : WFp (sF σ q 11 x) = WFp σ := WFp_sF
theorem WFp_sF12 {σ : rS} {q : Nat} {x : Int} : WFp (sF σ q 12 x) = WFp σ := WFp_sF
theorem WFp_sF13 {σ : rS} {q : Nat} {x : Int} : WFp (sF σ q 13 x) = WFp σ := WFp_sF
theorem WFp_sF14 {σ : rS} {q : Nat} {x : Int} : WFp (sF σ q 14 x) = WFp σ := WFp_sF
theorem WFp_sF16 {σ : rS} {q : Nat} {x : Int} : WFp (sF σ q 16 x) = WFp σ := WFp_sF
theorem WFp_sF17 {σ : rS} {q : Nat} {x : Int} : WFp (sF σ q 17 x) = WFp σ := WFp_sF
theorem WFp_sF18 {σ : rS} {q : Nat} {x : Int} : WFp (sF σ q 18 x) = WFp σ := WFp_sF
theorem WFp_sF19 {σ : rS} {q : Nat} {x : Int} : WFp (sF σ q 19 x) = WFp σ := WFp_sF
theorem WFp_sA20 {σ : rS} {i x : Int} : WFp (sA σ 1020 i x) = WFp σ := WFp_sA (by decide) (by decide)
theorem WFp_sF21 {σ : rS} {q : Nat} {x : Int} : WFp (sF σ q 21 x) = WFp σ := WFp_sF
theorem WFp_sF22 {σ : rS} {q : Nat} {x : Int} : WFp (sF σ q 22 x) = WFp σ := WFp_sF
theorem WFp_sF23 {σ : rS} {q : Nat} {x : Int} : WFp (sF σ q 23 x) = WFp σ := WFp_sF
theorem WFp_sF24 {σ : rS} {q : Nat} {x : Int} : WFp (sF σ q 24 x) = WFp σ := WFp_sF
theorem WFp_sF25 {σ : rS} {q : Nat} {x : Int} : WFp (sF σ q 25 x) = WFp σ := WFp_sF
theorem WFp_sA26 {σ : rS} {i x : Int} : WFp (sA σ 1026 i x) = WFp σ := WFp_sA (by decide) (by decide)
theorem WFp_sA27 {σ : rS} {i x : Int} : WFp (sA σ 1027 i x) = WFp σ := WFp_sA (by decide) (by decide)
theorem WFp_sF28 {σ : rS} {q : Nat} {x : Int} : WFp (sF σ q 28 x) = WFp σ := WFp_sF
theorem WFp_sF29 {σ : rS} {q : Nat} {x : Int} : WFp (sF σ q 29 x) = WFp σ := WFp_sF
theorem WFp_sF30 {σ : rS} {q : Nat} {x : Int} : WFp (sF σ q 30 x) = WFp σ := WFp_sF
theorem WFp_sF31 {σ : rS} {q : Nat} {x : Int} : WFp (sF σ q 31 x) = WFp σ := WFp_sF
theorem WFp_sF32 {σ : rS} {q : Nat} {x : Int} : WFp (sF σ q 32 x) = WFp σ := WFp_sF
theorem WFp_sF33 {σ : rS} {q : Nat} {x : Int} : WFp (sF σ q 33 x) = WFp σ := WFp_sF
theorem WFp_sA34 {σ : rS} {i x : Int} : WFp (sA σ 1034 i x) = WFp σ := WFp_sA (by decide) (by decide)
theorem WFp_sA35 {σ : rS} {i x : Int} : WFp (sA σ 1035 i x) = WFp σ := WFp_sA (by decide) (by decide)
theorem WFp_sA36 {σ : rS} {i x : Int} : WFp (sA σ 1036 i x) = WFp σ := WFp_sA (by decide) (by decide)
theorem WFp_sA37 {σ : rS} {i x : Int} : WFp (sA σ 1037 i x) = WFp σ := WFp_sA (by decide) (by decide)
theorem WFp_sF38 {σ : rS} {q : Nat} {x : Int} : WFp (sF σ q 38 x) = WFp σ := WFp_sF
theorem WFp_sF39 {σ : rS} {q : Nat} {x : Int} : WFp (sF σ q 39 x) = WFp σ := WFp_sF
theorem WFp_sA40 {σ : rS} {i x : Int} : WFp (sA σ 1040 i x) = WFp σ := WFp_sA (by decide) (by decide)
theorem WFp_sF41 {σ : rS} {q : Nat} {x : Int} : WFp (sF σ q 41 x) = WFp σ := WFp_sF
theorem WFp_sF42 {σ : rS} {q : Nat} {x : Int} : WFp (sF σ q 42 x) = WFp σ := WFp_sF
theorem WFp_sF43 {σ : rS} {q : Nat} {x : Int} : WFp (sF σ q 43 x) = WFp σ := WFp_sF
theorem WFp_sF44 {σ : rS} {q : Nat} {x : Int} : WFp (sF σ q 44 x) = WFp σ := WFp_sF
theorem WFp_sF45 {σ : rS} {q : Nat} {x : Int} : WFp (sF σ q 45 x) = WFp σ := WFp_sF
theorem WFp_sA46 {σ : rS} {i x : Int} : WFp (sA σ 1046 i x) = WFp σ := WFp_sA (by decide) (by decide)
theorem WFp_sA47 {σ : rS} {i x : Int} : WFp (sA σ 1047 i x) = WFp σ := WFp_sA (by decide) (by decide)
theorem WFp_sA48 {σ : rS} {i x : Int} : WFp (sA σ 1048 i x) = WFp σ := WFp_sA (by decide) (by decide)
theorem WFp_sA51 {σ : rS} {i x : Int} : WFp (sA σ 1051 i x) = WFp σ := WFp_sA (by decide) (by decide)
theorem WFp_sA52 {σ : rS} {i x : Int} : WFp (sA σ 1052 i x) = WFp σ := WFp_sA (by decide) (by decide)
theorem WFp_sA53 {σ : rS} {i x : Int} : WFp (sA σ 1053 i x) = WFp σ := WFp_sA (by decide) (by decide)
theorem WFp_sA54 {σ : rS} {i x : Int} : WFp (sA σ 1054 i x) = WFp σ := WFp_sA (by decide) (by decide)
theorem WFp_sA55 {σ : rS} {i x : Int} : WFp (sA σ 1055 i x) = WFp σ := WFp_sA (by decide) (by decide)
theorem WFp_sA56 {σ : rS} {i x : Int} : WFp (sA σ 1056 i x) = WFp σ := WFp_sA (by decide) (by decide)
theorem WFp_sA57 {σ : rS} {i x : Int} : WFp (sA σ 1057 i x) = WFp σ := WFp_sA (by decide) (by decide)
theorem WFp_sA58 {σ : rS} {i x : Int} : WFp (sA σ 1058 i x) = WFp σ := WFp_sA (by decide) (by decide)
theorem WFp_sA59 {σ : rS} {i x : Int} : WFp (sA σ 1059 i x) = WFp σ := WFp_sA (by decide) (by decide)
theorem WFp_sF60 {σ : rS} {q : Nat} {x : Int} : WFp (sF σ q 60 x) = WFp σ := WFp_sF
theorem WFp_sA61 {σ : rS} {i x : Int} : WFp (sA σ 1061 i x) = WFp σ := WFp_sA (by decide) (by decide)
theorem WFp_sA62 {σ : rS} {i x : Int} : WFp (sA σ 1062 i x) = WFp σ := WFp_sA (by decide) (by decide)
theorem WFp_sA63 {σ : rS} {i x : Int} : WFp (sA σ 1063 i x) = WFp σ := WFp_sA (by decide) (by decide)
theorem WFp_sA64 {σ : rS} {i x : Int} : WFp (sA σ 1064 i x) = WFp σ := WFp_sA (by decide) (by decide)
theorem WFp_sF65 {σ : rS} {q : Nat} {x : Int} : WFp (sF σ q 65 x) = WFp σ := WFp_sF
theorem WFp_sF66 {σ : rS} {q : Nat} {x : Int} : WFp (sF σ q 66 x) = WFp σ := WFp_sF
theorem WFp_sF67 {σ : rS} {q : Nat} {x : Int} : WFp (sF σ q 67 x) = WFp σ := WFp_sF
theorem WFp_sF68 {σ : rS} {q : Nat} {x : Int} : WFp (sF σ q 68 x) = WFp σ := WFp_sF
theorem WFp_sA69 {σ : rS} {i x : Int} : WFp (sA σ 1069 i x) = WFp σ := WFp_sA (by decide) (by decide)
theorem WFp_sF70 {σ : rS} {q : Nat} {x : Int} : WFp (sF σ q 70 x) = WFp σ := WFp_sF
theorem WFp_sF71 {σ : rS} {q : Nat} {x : Int} : WFp (sF σ q 71 x) = WFp σ := WFp_sF
theorem WFp_sF72 {σ : rS} {q : Nat} {x : Int} : WFp (sF σ q 72 x) = WFp σ := WFp_sF
theorem WFp_sF73 {σ : rS} {q : Nat} {x : Int} : WFp (sF σ q 73 x) = WFp σ := WFp_sF
theorem WFp_sF74 {σ : rS} {q : Nat} {x : Int} : WFp (sF σ q 74 x) = WFp σ := WFp_sF
theorem WFp_sA75 {σ : rS} {i x : Int} : WFp (sA σ 1075 i x) = WFp σ := WFp_sA (by decide) (by decide)
theorem WFp_sA76 {σ : rS} {i x : Int} : WFp (sA σ 1076 i x) = WFp σ := WFp_sA (by decide) (by decide)
theorem WFp_sA77 {σ : rS} {i x : Int} : WFp (sA σ 1077 i x) = WFp σ := WFp_sA (by decide) (by decide)
theorem WFp_sA78 {σ : rS} {i x : Int} : WFp (sA σ 1078 i x) = WFp σ := WFp_sA (by decide) (by decide)
theorem WFp_sA79 {σ : rS} {i x : Int} : WFp (sA σ 1079 i x) = WFp σ := WFp_sA (by decide) (by decide)
theorem WFp_sF80 {σ : rS} {q : Nat} {x : Int} : WFp (sF σ q 80 x) = WFp σ := WFp_sF
theorem WFp_sF81 {σ : rS} {q : Nat} {x : Int} : WFp (sF σ q 81 x) = WFp σ := WFp_sF
theorem WFp_sF82 {σ : rS} {q : Nat} {x : Int} : WFp (sF σ q 82 x) = WFp σ := WFp_sF
theorem WFp_sF83 {σ : rS} {q : Nat} {x : Int} : WFp (sF σ q 83 x) = WFp σ := WFp_sF
theorem WFp_sA84 {σ : rS} {i x : Int} : WFp (sA σ 1084 i x) = WFp σ := WFp_sA (by decide) (by decide)
theorem WFp_sA85 {σ : rS} {i x : Int} : WFp (sA σ 1085 i x) = WFp σ := WFp_sA (by decide) (by decide)
theorem WFp_sA86 {σ : rS} {i x : Int} : WFp (sA σ 1086 i x) = WFp σ := WFp_sA (by decide) (by decide)
theorem WFp_sA87 {σ : rS} {i x : Int} : WFp (sA σ 1087 i x) = WFp σ := WFp_sA (by decide) (by decide)
theorem WFp_sF88 {σ : rS} {q : Nat} {x : Int} : WFp (sF σ q 88 x) = WFp σ := WFp_sF
theorem WFp_sA89 {σ : rS} {i x : Int} : WFp (sA σ 1089 i x) = WFp σ := WFp_sA (by decide) (by decide)
theorem WFp_sA90 {σ : rS} {i x : Int} : WFp (sA σ 1090 i x) = WFp σ := WFp_sA (by decide) (by decide)
theorem WFp_sA91 {σ : rS} {i x : Int} : WFp (sA σ 1091 i x) = WFp σ := WFp_sA (by decide) (by decide)
theorem WFp_sF92 {σ : rS} {q : Nat} {x : Int} : WFp (sF σ q 92 x) = WFp σ := WFp_sF
theorem WFp_sA93 {σ : rS} {i x : Int} : WFp (sA σ 1093 i x) = WFp σ := WFp_sA (by decide) (by decide)
theorem WFp_sF94 {σ : rS} {q : Nat} {x : Int} : WFp (sF σ q 94 x) = WFp σ := WFp_sF
theorem WFp_sF96 {σ : rS} {q : Nat} {x : Int} : WFp (sF σ q 96 x) = WFp σ := WFp_sF
theorem WFp_sF97 {σ : rS} {q : Nat} {x : Int} : WFp (sF σ q 97 x) = WFp σ := WFp_sF
theorem WFp_sF98 {σ : rS} {q : Nat} {x : Int} : WFp (sF σ q 98 x) = WFp σ := WFp_sF
theorem WFp_sF99 {σ : rS} {q : Nat} {x : Int} : WFp (sF σ q 99 x) = WFp σ := WFp_sF
theorem WFp_sF100 {σ : rS} {q : Nat} {x : Int} : WFp (sF σ q 100 x) = WFp σ := WFp_sF
theorem WFp_sF101 {σ : rS} {q : Nat} {x : Int} : WFp (sF σ q 101 x) = WFp σ := WFp_sF
theorem WFp_sA102 {σ : rS} {i x : Int} : WFp (sA σ 1102 i x) = WFp σ := WFp_sA (by decide) (by decide)
theorem WFp_sF103 {σ : rS} {q : Nat} {x : Int} : WFp (sF σ q 103 x) = WFp σ := WFp_sF
theorem WFp_sF104 {σ : rS} {q : Nat} {x : Int} : WFp (sF σ q 104 x) = WFp σ := WFp_sF
theorem WFp_sA105 {σ : rS} {i x : Int} : WFp (sA σ 1105 i x) = WFp σ := WFp_sA (by decide) (by decide)
theorem WFp_sA106 {σ : rS} {i x : Int} : WFp (sA σ 1106 i x) = WFp σ := WFp_sA (by decide) (by decide)
theorem WFp_sA107 {σ : rS} {i x : Int} : WFp (sA σ 1107 i x) = WFp σ := WFp_sA (by decide) (by decide)
theorem WFp_sA108 {σ : rS} {i x : Int} : WFp (sA σ 1108 i x) = WFp σ := WFp_sA (by decide) (by decide)
theorem WFp_sA109 {σ : rS} {i x : Int} : WFp (sA σ 1109 i x) = WFp σ := WFp_sA (by decide) (by decide)
theorem WFp_sA110 {σ : rS} {i x : Int} : WFp (sA σ 1110 i x) = WFp σ := WFp_sA (by decide) (by decide)
theorem WFp_sA111 {σ : rS} {i x : Int} : WFp (sA σ 1111 i x) = WFp σ := WFp_sA (by decide) (by decide)
theorem WFp_sF112 {σ : rS} {q : Nat} {x : Int} : WFp (sF σ q 112 x) = WFp σ := WFp_sF
theorem WFp_sF113 {σ : rS} {q : Nat} {x : Int} : WFp (sF σ q 113 x) = WFp σ := WFp_sF
theorem WFp_sA114 {σ : rS} {i x : Int} : WFp (sA σ 1114 i x) = WFp σ := WFp_sA (by decide) (by decide)
theorem WFp_sA115 {σ : rS} {i x : Int} : WFp (sA σ 1115 i x) = WFp σ := WFp_sA (by decide) (by decide)
theorem WFp_sA116 {σ : rS} {i x : Int} : WFp (sA σ 1116 i x) = WFp σ := WFp_sA (by decide) (by decide)
theorem WFp_sA117 {σ : rS} {i x : Int} : WFp (sA σ 1117 i x) = WFp σ := WFp_sA (by decide) (by decide)
theorem WFp_sF118 {σ : rS} {q : Nat} {x : Int} : WFp (sF σ q 118 x) = WFp σ := WFp_sF
theorem WFp_sF119 {σ : rS} {q : Nat} {x : Int} : WFp (sF σ q 119 x) = WFp σ := WFp_sF
theorem WFp_sA120 {σ : rS} {i x : Int} : WFp (sA σ 1120 i x) = WFp σ := WFp_sA (by decide) (by decide)
theorem WFp_sA121 {σ : rS} {i x : Int} : WFp (sA σ 1121 i x) = WFp σ := WFp_sA (by decide) (by decide)
theorem WFp_sF122 {σ : rS} {q : Nat} {x : Int} : WFp (sF σ q 122 x) = WFp σ := WFp_sF
theorem WFp_sF123 {σ : rS} {q : Nat} {x : Int} : WFp (sF σ q 123 x) = WFp σ := WFp_sF
theorem WFp_sA124 {σ : rS} {i x : Int} : WFp (sA σ 1124 i x) = WFp σ := WFp_sA (by decide) (by decide)
theorem WFp_sA125 {σ : rS} {i x : Int} : WFp (sA σ 1125 i x) = WFp σ := WFp_sA (by decide) (by decide)
theorem WFp_sA126 {σ : rS} {i x : Int} : WFp (sA σ 1126 i x) = WFp σ := WFp_sA (by decide) (by decide)
theorem WFp_sA127 {σ : rS} {i x : Int} : WFp (sA σ 1127 i x) = WFp σ := WFp_sA (by decide) (by decide)
theorem WFp_sA128 {σ : rS} {i x : Int} : WFp (sA σ 1128 i x) = WFp σ := WFp_sA (by decide) (by decide)
theorem WFp_sA129 {σ : rS} {i x : Int} : WFp (sA σ 1129 i x) = WFp σ := WFp_sA (by decide) (by decide)
theorem WFp_sF135 {σ : rS} {q : Nat} {x : Int} : WFp (sF σ q 135 x) = WFp σ := WFp_sF
theorem WFp_sA136 {σ : rS} {i x : Int} : WFp (sA σ 1136 i x) = WFp σ := WFp_sA (by decide) (by decide)
theorem WFp_sF137 {σ : rS} {q : Nat} {x : Int} : WFp (sF σ q 137 x) = WFp σ := WFp_sF
theorem WFp_sA138 {σ : rS} {i x : Int} : WFp (sA σ 1138 i x) = WFp σ := WFp_sA (by decide) (by decide)
theorem WFp_gA0 {σ : rS} {k : Nat} {i x : Int} : WFp (sA σ (1000 * (k + 1) + 0) i x) = WFp σ := WFp_sA (by omega) (by omega)
theorem WFp_gA1 {σ : rS} {k : Nat} {i x : Int} : WFp (sA σ (1000 * (k + 1) + 1) i x) = WFp σ := WFp_sA (by omega) (by omega)
theorem WFp_gA2 {σ : rS} {k : Nat} {i x : Int} : WFp (sA σ (1000 * (k + 1) + 2) i x) = WFp σ := WFp_sA (by omega) (by omega)
theorem WFp_gA3 {σ : rS} {k : Nat} {i x : Int} : WFp (sA σ (1000 * (k + 1) + 3) i x) = WFp σ := WFp_sA (by omega) (by omega)
theorem WFp_gA4 {σ : rS} {k : Nat} {i x : Int} : WFp (sA σ (1000 * (k + 1) + 4) i x) = WFp σ := WFp_sA (by omega) (by omega)
theorem WFp_gA5 {σ : rS} {k : Nat} {i x : Int} : WFp (sA σ (1000 * (k + 1) + 5) i x) = WFp σ := WFp_sA (by omega) (by omega)
theorem WFp_gA6 {σ : rS} {k : Nat} {i x : Int} : WFp (sA σ (1000 * (k + 1) + 6) i x) = WFp σ := WFp_sA (by omega) (by omega)
theorem WFp_sF7 {σ : rS} {q : Nat} {x : Int} : WFp (sF σ q 7 x) = WFp σ := WFp_sF
theorem WFp_gA8 {σ : rS} {k : Nat} {i x : Int} : WFp (sA σ (1000 * (k + 1) + 8) i x) = WFp σ := WFp_sA (by omega) (by omega)
theorem WFp_sF9 {σ : rS} {q : Nat} {x : Int} : WFp (sF σ q 9 x) = WFp σ := WFp_sF
theorem WFp_gA10 {σ : rS} {k : Nat} {i x : Int} : WFp (sA σ (1000 * (k + 1) + 10) i x) = WFp σ := WFp_sA (by omega) (by omega)
theorem WFp_gA11 {σ : rS} {k : Nat} {i x : Int} : WFp (sA σ (1000 * (k + 1) + 11) i x) = WFp σ := WFp_sA (by omega) (by omega)
theorem WFp_gA15 {σ : rS} {k : Nat} {i x : Int} : WFp (sA σ (1000 * (k + 1) + 15) i x) = WFp σ := WFp_sA (by omega) (by omega)
theorem WFp_gA16 {σ : rS} {k : Nat} {i x : Int} : WFp (sA σ (1000 * (k + 1) + 16) i x) = WFp σ := WFp_sA (by omega) (by omega)
theorem WFp_gA17 {σ : rS} {k : Nat} {i x : Int} : WFp (sA σ (1000 * (k + 1) + 17) i x) = WFp σ := WFp_sA (by omega) (by omega)
theorem WFp_gA18 {σ : rS} {k : Nat} {i x : Int} : WFp (sA σ (1000 * (k + 1) + 18) i x) = WFp σ := WFp_sA (by omega) (by omega)
theorem WFp_gA19 {σ : rS} {k : Nat} {i x : Int} : WFp (sA σ (1000 * (k + 1) + 19) i x) = WFp σ := WFp_sA (by omega) (by omega)
theorem WFp_gA20 {σ : rS} {k : Nat} {i x : Int} : WFp (sA σ (1000 * (k + 1) + 20) i x) = WFp σ := WFp_sA (by omega) (by omega)
theorem WFp_gA21 {σ : rS} {k : Nat} {i x : Int} : WFp (sA σ (1000 * (k + 1) + 21) i x) = WFp σ := WFp_sA (by omega) (by omega)
theorem WFp_gA22 {σ : rS} {k : Nat} {i x : Int} : WFp (sA σ (1000 * (k + 1) + 22) i x) = WFp σ := WFp_sA (by omega) (by omega)
theorem WFp_gA23 {σ : rS} {k : Nat} {i x : Int} : WFp (sA σ (1000 * (k + 1) + 23) i x) = WFp σ := WFp_sA (by omega) (by omega)
theorem WFp_gA24 {σ : rS} {k : Nat} {i x : Int} : WFp (sA σ (1000 * (k + 1) + 24) i x) = WFp σ := WFp_sA (by omega) (by omega)
theorem WFp_gA25 {σ : rS} {k : Nat} {i x : Int} : WFp (sA σ (1000 * (k + 1) + 25) i x) = WFp σ := WFp_sA (by omega) (by omega)
theorem WFp_gA26 {σ : rS} {k : Nat} {i x : Int} : WFp (sA σ (1000 * (k + 1) + 26) i x) = WFp σ := WFp_sA (by omega) (by omega)
theorem WFp_gA27 {σ : rS} {k : Nat} {i x : Int} : WFp (sA σ (1000 * (k + 1) + 27) i x) = WFp σ := WFp_sA (by omega) (by omega)
theorem WFp_gA29 {σ : rS} {k : Nat} {i x : Int} : WFp (sA σ (1000 * (k + 1) + 29) i x) = WFp σ := WFp_sA (by omega) (by omega)
theorem WFp_gA30 {σ : rS} {k : Nat} {i x : Int} : WFp (sA σ (1000 * (k + 1) + 30) i x) = WFp σ := WFp_sA (by omega) (by omega)
theorem WFp_gA31 {σ : rS} {k : Nat} {i x : Int} : WFp (sA σ (1000 * (k + 1) + 31) i x) = WFp σ := WFp_sA (by omega) (by omega)
theorem WFp_gA33 {σ : rS} {k : Nat} {i x : Int} : WFp (sA σ (1000 * (k + 1) + 33) i x) = WFp σ := WFp_sA (by omega) (by omega)
theorem WFp_gA34 {σ : rS} {k : Nat} {i x : Int} : WFp (sA σ (1000 * (k + 1) + 34) i x) = WFp σ := WFp_sA (by omega) (by omega)
theorem WFp_gA35 {σ : rS} {k : Nat} {i x : Int} : WFp (sA σ (1000 * (k + 1) + 35) i x) = WFp σ := WFp_sA (by omega) (by omega)
theorem WFp_gA36 {σ : rS} {k : Nat} {i x : Int} : WFp (sA σ (1000 * (k + 1) + 36) i x) = WFp σ := WFp_sA (by omega) (by omega)
theorem WFp_gA37 {σ : rS} {k : Nat} {i x : Int} : WFp (sA σ (1000 * (k + 1) + 37) i x) = WFp σ := WFp_sA (by omega) (by omega)
theorem zw2471 : Cond.fieldLink "TemplateHouseModel" 788 "TemplateHouseModel" "taped" "I" ∈ zT := zsub11 71 (by decide +kernel) (by decide +kernel)
theorem zw2533 : Cond.fieldLink "TemplateHouseModel" 791 "TemplateHouseModel" "took" "I" ∈ zT := zsub11 133 (by decide +kernel) (by decide +kernel)
theorem zw2535 : Cond.fieldLink "TemplateHouseModel" 794 "TemplateHouseModel" "state" "I" ∈ zT := zsub11 135 (by decide +kernel) (by decide +kernel)
theorem zw2510 : Cond.fieldLink "TemplateHouseModel" 797 "TemplateHouseModel" "values" "I" ∈ zT := zsub11 110 (by decide +kernel) (by decide +kernel)
theorem zw2512 : Cond.fieldLink "TemplateHouseModel" 800 "TemplateHouseModel" "kept" "I" ∈ zT := zsub11 112 (by decide +kernel) (by decide +kernel)
theorem zw2893 : Cond.methodLink "TemplateHouseModel" 803 ⟨"TemplateHouseModel", "isMade", "()Z"⟩ ∈ zT := zsub13 13 (by decide +kernel) (by decide +kernel)
theorem zw2513 : Cond.fieldLink "TemplateHouseModel" 64 "TemplateHouseModel" "valueKind" "[I" ∈ zT := zsub11 113 (by decide +kernel) (by decide +kernel)
theorem zw2518 : Cond.fieldLink "TemplateHouseModel" 80 "TemplateHouseModel" "many" "[I" ∈ zT := zsub11 118 (by decide +kernel) (by decide +kernel)
theorem zw2516 : Cond.fieldLink "TemplateHouseModel" 74 "TemplateHouseModel" "wordFrom" "[I" ∈ zT := zsub11 116 (by decide +kernel) (by decide +kernel)
theorem zw2517 : Cond.fieldLink "TemplateHouseModel" 77 "TemplateHouseModel" "wordSize" "[I" ∈ zT := zsub11 117 (by decide +kernel) (by decide +kernel)
theorem zw2515 : Cond.fieldLink "TemplateHouseModel" 71 "TemplateHouseModel" "letters" "[B" ∈ zT := zsub11 115 (by decide +kernel) (by decide +kernel)
theorem zw2470 : Cond.fieldLink "TemplateHouseModel" 13 "TemplateHouseModel" "tape" "[B" ∈ zT := zsub11 70 (by decide +kernel) (by decide +kernel)
theorem zw2468 : Cond.fieldLink "TemplateHouseModel" 806 "TemplateHouseModel" "thrown" "I" ∈ zT := zsub11 68 (by decide +kernel) (by decide +kernel)
theorem zw2889 : Cond.methodLink "TemplateHouseModel" 809 ⟨"TemplateHouseModel", "newValue", "(II)I"⟩ ∈ zT := zsub13 9 (by decide +kernel) (by decide +kernel)
theorem zw2514 : Cond.fieldLink "TemplateHouseModel" 67 "TemplateHouseModel" "number" "[J" ∈ zT := zsub11 114 (by decide +kernel) (by decide +kernel)
theorem zw2905 : Cond.methodLink "TemplateHouseModel" 812 ⟨"TemplateHouseModel", "take", "()V"⟩ ∈ zT := zsub13 25 (by decide +kernel) (by decide +kernel)
theorem zw2527 : Cond.fieldLink "TemplateHouseModel" 830 "TemplateHouseModel" "added" "I" ∈ zT := zsub11 127 (by decide +kernel) (by decide +kernel)
theorem zw2528 : Cond.fieldLink "TemplateHouseModel" 108 "TemplateHouseModel" "addedFrom" "[I" ∈ zT := zsub11 128 (by decide +kernel) (by decide +kernel)
theorem zw2529 : Cond.fieldLink "TemplateHouseModel" 111 "TemplateHouseModel" "addedSize" "[I" ∈ zT := zsub11 129 (by decide +kernel) (by decide +kernel)
theorem zw2530 : Cond.fieldLink "TemplateHouseModel" 114 "TemplateHouseModel" "addedValue" "[I" ∈ zT := zsub11 130 (by decide +kernel) (by decide +kernel)
theorem zw2531 : Cond.fieldLink "TemplateHouseModel" 117 "TemplateHouseModel" "addedBytes" "[B" ∈ zT := zsub11 131 (by decide +kernel) (by decide +kernel)
theorem zw2532 : Cond.fieldLink "TemplateHouseModel" 833 "TemplateHouseModel" "width" "I" ∈ zT := zsub11 132 (by decide +kernel) (by decide +kernel)
theorem zw2469 : Cond.fieldLink "TemplateHouseModel" 7 "TemplateHouseModel" "ready" "[B" ∈ zT := zsub11 69 (by decide +kernel) (by decide +kernel)
theorem zw2537 : Cond.fieldLink "TemplateHouseModel" 980 "TemplateHouseModel" "outs" "I" ∈ zT := zsub11 137 (by decide +kernel) (by decide +kernel)
theorem zw2536 : Cond.fieldLink "TemplateHouseModel" 120 "TemplateHouseModel" "out" "[B" ∈ zT := zsub11 136 (by decide +kernel) (by decide +kernel)
theorem zw2540 : Cond.fieldLink "TemplateHouseModel" 857 "TemplateHouseModel" "errors" "I" ∈ zT := zsub11 140 (by decide +kernel) (by decide +kernel)
theorem zw2544 : Cond.fieldLink "TemplateHouseModel" 129 "TemplateHouseModel" "errorPlace" "[I" ∈ zT := zsub11 144 (by decide +kernel) (by decide +kernel)
theorem zw2543 : Cond.fieldLink "TemplateHouseModel" 126 "TemplateHouseModel" "errorFile" "[I" ∈ zT := zsub11 143 (by decide +kernel) (by decide +kernel)
theorem zw2542 : Cond.fieldLink "TemplateHouseModel" 123 "TemplateHouseModel" "errorKind" "[I" ∈ zT := zsub11 142 (by decide +kernel) (by decide +kernel)
theorem zw2541 : Cond.fieldLink "TemplateHouseModel" 869 "TemplateHouseModel" "looks" "I" ∈ zT := zsub11 141 (by decide +kernel) (by decide +kernel)
theorem zw2546 : Cond.fieldLink "TemplateHouseModel" 135 "TemplateHouseModel" "lookOf" "[I" ∈ zT := zsub11 146 (by decide +kernel) (by decide +kernel)
theorem zw2545 : Cond.fieldLink "TemplateHouseModel" 132 "TemplateHouseModel" "lookBean" "[I" ∈ zT := zsub11 145 (by decide +kernel) (by decide +kernel)
theorem zw2908 : Cond.code ⟨"TemplateHouseModel", "take", "()V"⟩ prog_15_method_86_code 1 (Option.none : Option Jvm.ClassFile.FieldType) ∈ zT := zsub13 28 rfl rfl
theorem zw2907 : Cond.instanceMethod ⟨"TemplateHouseModel", "take", "()V"⟩ ∈ zT := zsub13 27 (by decide +kernel) (by decide +kernel)
theorem zwp285 : Cond.selects "TemplateHouseModel" ⟨"TemplateHouseModel", "take", "()V"⟩ ⟨"TemplateHouseModel", "take", "()V"⟩ ∈ zT := zin 285 (by decide +kernel) (by decide +kernel)
theorem zw2896 : Cond.code ⟨"TemplateHouseModel", "isMade", "()Z"⟩ prog_15_method_87_code 1 (Option.some Jvm.ClassFile.FieldType.boolean) ∈ zT := zsub13 16 rfl rfl
theorem zw2895 : Cond.instanceMethod ⟨"TemplateHouseModel", "isMade", "()Z"⟩ ∈ zT := zsub13 15 (by decide +kernel) (by decide +kernel)
theorem zwp194 : Cond.selects "TemplateHouseModel" ⟨"TemplateHouseModel", "isMade", "()Z"⟩ ⟨"TemplateHouseModel", "isMade", "()Z"⟩ ∈ zT := zin 194 (by decide +kernel) (by decide +kernel)
theorem zw2892 : Cond.code ⟨"TemplateHouseModel", "newValue", "(II)I"⟩ prog_15_method_88_code 4 (Option.some Jvm.ClassFile.FieldType.int) ∈ zT := zsub13 12 rfl rfl
theorem zw2891 : Cond.instanceMethod ⟨"TemplateHouseModel", "newValue", "(II)I"⟩ ∈ zT := zsub13 11 (by decide +kernel) (by decide +kernel)
theorem zwp227 : Cond.selects "TemplateHouseModel" ⟨"TemplateHouseModel", "newValue", "(II)I"⟩ ⟨"TemplateHouseModel", "newValue", "(II)I"⟩ ∈ zT := zin 227 (by decide +kernel) (by decide +kernel)
theorem zw2888 : Cond.code ⟨"TemplateHouseModel", "truth", "(Z)I"⟩ prog_15_method_89_code 3 (Option.some Jvm.ClassFile.FieldType.int) ∈ zT := zsub13 8 rfl rfl
theorem zw2886 : Cond.instanceMethod ⟨"TemplateHouseModel", "truth", "(Z)I"⟩ ∈ zT := zsub13 6 (by decide +kernel) (by decide +kernel)
theorem zw2887 : Cond.selects "TemplateHouseModel" ⟨"TemplateHouseModel", "truth", "(Z)I"⟩ ⟨"TemplateHouseModel", "truth", "(Z)I"⟩ ∈ zT := zsub13 7 (by decide +kernel) (by decide +kernel)
theorem zw2900 : Cond.code ⟨"TemplateHouseModel", "number", "(J)I"⟩ prog_15_method_90_code 4 (Option.some Jvm.ClassFile.FieldType.int) ∈ zT := zsub13 20 rfl rfl
theorem zw2898 : Cond.instanceMethod ⟨"TemplateHouseModel", "number", "(J)I"⟩ ∈ zT := zsub13 18 (by decide +kernel) (by decide +kernel)
theorem zw2899 : Cond.selects "TemplateHouseModel" ⟨"TemplateHouseModel", "number", "(J)I"⟩ ⟨"TemplateHouseModel", "number", "(J)I"⟩ ∈ zT := zsub13 19 (by decide +kernel) (by decide +kernel)
theorem zw2904 : Cond.code ⟨"TemplateHouseModel", "word", "()I"⟩ prog_15_method_91_code 1 (Option.some Jvm.ClassFile.FieldType.int) ∈ zT := zsub13 24 rfl rfl
theorem zw2902 : Cond.instanceMethod ⟨"TemplateHouseModel", "word", "()I"⟩ ∈ zT := zsub13 22 (by decide +kernel) (by decide +kernel)
theorem zw2903 : Cond.selects "TemplateHouseModel" ⟨"TemplateHouseModel", "word", "()I"⟩ ⟨"TemplateHouseModel", "word", "()I"⟩ ∈ zT := zsub13 23 (by decide +kernel) (by decide +kernel)
theorem zw2920 : Cond.code ⟨"TemplateHouseModel", "bean", "()I"⟩ prog_15_method_94_code 1 (Option.some Jvm.ClassFile.FieldType.int) ∈ zT := zsub13 40 rfl rfl
theorem zw2918 : Cond.instanceMethod ⟨"TemplateHouseModel", "bean", "()I"⟩ ∈ zT := zsub13 38 (by decide +kernel) (by decide +kernel)
theorem zw2919 : Cond.selects "TemplateHouseModel" ⟨"TemplateHouseModel", "bean", "()I"⟩ ⟨"TemplateHouseModel", "bean", "()I"⟩ ∈ zT := zsub13 39 (by decide +kernel) (by decide +kernel)
theorem zw2912 : Cond.code ⟨"TemplateHouseModel", "list", "()I"⟩ prog_15_method_92_code 1 (Option.some Jvm.ClassFile.FieldType.int) ∈ zT := zsub13 32 rfl rfl
theorem zw2910 : Cond.instanceMethod ⟨"TemplateHouseModel", "list", "()I"⟩ ∈ zT := zsub13 30 (by decide +kernel) (by decide +kernel)
theorem zw2911 : Cond.selects "TemplateHouseModel" ⟨"TemplateHouseModel", "list", "()I"⟩ ⟨"TemplateHouseModel", "list", "()I"⟩ ∈ zT := zsub13 31 (by decide +kernel) (by decide +kernel)
theorem zw2916 : Cond.code ⟨"TemplateHouseModel", "map", "()I"⟩ prog_15_method_93_code 1 (Option.some Jvm.ClassFile.FieldType.int) ∈ zT := zsub13 36 rfl rfl
theorem zw2914 : Cond.instanceMethod ⟨"TemplateHouseModel", "map", "()I"⟩ ∈ zT := zsub13 34 (by decide +kernel) (by decide +kernel)
theorem zw2915 : Cond.selects "TemplateHouseModel" ⟨"TemplateHouseModel", "map", "()I"⟩ ⟨"TemplateHouseModel", "map", "()I"⟩ ∈ zT := zsub13 35 (by decide +kernel) (by decide +kernel)
theorem zw2928 : Cond.code ⟨"TemplateHouseModel", "isValue", "(II)Z"⟩ prog_15_method_95_code 3 (Option.some Jvm.ClassFile.FieldType.boolean) ∈ zT := zsub13 48 rfl rfl
theorem zw2927 : Cond.instanceMethod ⟨"TemplateHouseModel", "isValue", "(II)Z"⟩ ∈ zT := zsub13 47 (by decide +kernel) (by decide +kernel)
theorem zwp209 : Cond.selects "TemplateHouseModel" ⟨"TemplateHouseModel", "isValue", "(II)Z"⟩ ⟨"TemplateHouseModel", "isValue", "(II)Z"⟩ ∈ zT := zin 209 (by decide +kernel) (by decide +kernel)
theorem zw2932 : Cond.code ⟨"TemplateHouseModel", "mayHave", "(II)Z"⟩ prog_15_method_96_code 3 (Option.some Jvm.ClassFile.FieldType.boolean) ∈ zT := zsub13 52 rfl rfl
theorem zw2931 : Cond.instanceMethod ⟨"TemplateHouseModel", "mayHave", "(II)Z"⟩ ∈ zT := zsub13 51 (by decide +kernel) (by decide +kernel)
theorem zwp224 : Cond.selects "TemplateHouseModel" ⟨"TemplateHouseModel", "mayHave", "(II)Z"⟩ ⟨"TemplateHouseModel", "mayHave", "(II)Z"⟩ ∈ zT := zin 224 (by decide +kernel) (by decide +kernel)
theorem zw2940 : Cond.code ⟨"TemplateHouseModel", "isTape", "(II)Z"⟩ prog_15_method_98_code 5 (Option.some Jvm.ClassFile.FieldType.boolean) ∈ zT := zsub13 60 rfl rfl
theorem zw2939 : Cond.instanceMethod ⟨"TemplateHouseModel", "isTape", "(II)Z"⟩ ∈ zT := zsub13 59 (by decide +kernel) (by decide +kernel)
theorem zwp205 : Cond.selects "TemplateHouseModel" ⟨"TemplateHouseModel", "isTape", "(II)Z"⟩ ⟨"TemplateHouseModel", "isTape", "(II)Z"⟩ ∈ zT := zin 205 (by decide +kernel) (by decide +kernel)
theorem zw2944 : Cond.code ⟨"TemplateHouseModel", "keepTape", "()I"⟩ prog_15_method_100_code 3 (Option.some Jvm.ClassFile.FieldType.int) ∈ zT := zsub13 64 rfl rfl
theorem zw2943 : Cond.instanceMethod ⟨"TemplateHouseModel", "keepTape", "()I"⟩ ∈ zT := zsub13 63 (by decide +kernel) (by decide +kernel)
theorem zwp214 : Cond.selects "TemplateHouseModel" ⟨"TemplateHouseModel", "keepTape", "()I"⟩ ⟨"TemplateHouseModel", "keepTape", "()I"⟩ ∈ zT := zin 214 (by decide +kernel) (by decide +kernel)
theorem zw2952 : Cond.code ⟨"TemplateHouseModel", "attribute", "(I)I"⟩ prog_15_method_102_code 3 (Option.some Jvm.ClassFile.FieldType.int) ∈ zT := zsub13 72 rfl rfl
theorem zw2950 : Cond.instanceMethod ⟨"TemplateHouseModel", "attribute", "(I)I"⟩ ∈ zT := zsub13 70 (by decide +kernel) (by decide +kernel)
theorem zw2951 : Cond.selects "TemplateHouseModel" ⟨"TemplateHouseModel", "attribute", "(I)I"⟩ ⟨"TemplateHouseModel", "attribute", "(I)I"⟩ ∈ zT := zsub13 71 (by decide +kernel) (by decide +kernel)
theorem zw2956 : Cond.code ⟨"TemplateHouseModel", "clear", "()Z"⟩ prog_15_method_103_code 1 (Option.some Jvm.ClassFile.FieldType.boolean) ∈ zT := zsub13 76 rfl rfl
theorem zw2954 : Cond.instanceMethod ⟨"TemplateHouseModel", "clear", "()Z"⟩ ∈ zT := zsub13 74 (by decide +kernel) (by decide +kernel)
theorem zw2955 : Cond.selects "TemplateHouseModel" ⟨"TemplateHouseModel", "clear", "()Z"⟩ ⟨"TemplateHouseModel", "clear", "()Z"⟩ ∈ zT := zsub13 75 (by decide +kernel) (by decide +kernel)
theorem zw2960 : Cond.code ⟨"TemplateHouseModel", "width", "(I)Z"⟩ prog_15_method_104_code 2 (Option.some Jvm.ClassFile.FieldType.boolean) ∈ zT := zsub13 80 rfl rfl
theorem zw2958 : Cond.instanceMethod ⟨"TemplateHouseModel", "width", "(I)Z"⟩ ∈ zT := zsub13 78 (by decide +kernel) (by decide +kernel)
theorem zw2959 : Cond.selects "TemplateHouseModel" ⟨"TemplateHouseModel", "width", "(I)Z"⟩ ⟨"TemplateHouseModel", "width", "(I)Z"⟩ ∈ zT := zsub13 79 (by decide +kernel) (by decide +kernel)
theorem zw2964 : Cond.code ⟨"TemplateHouseModel", "feed", "(IIIII)V"⟩ prog_15_method_105_code 7 (Option.none : Option Jvm.ClassFile.FieldType) ∈ zT := zsub13 84 rfl rfl
theorem zw2962 : Cond.instanceMethod ⟨"TemplateHouseModel", "feed", "(IIIII)V"⟩ ∈ zT := zsub13 82 (by decide +kernel) (by decide +kernel)
theorem zw2963 : Cond.selects "TemplateHouseModel" ⟨"TemplateHouseModel", "feed", "(IIIII)V"⟩ ⟨"TemplateHouseModel", "feed", "(IIIII)V"⟩ ∈ zT := zsub13 83 (by decide +kernel) (by decide +kernel)
theorem zw2968 : Cond.code ⟨"TemplateHouseModel", "end", "(I)I"⟩ prog_15_method_106_code 3 (Option.some Jvm.ClassFile.FieldType.int) ∈ zT := zsub13 88 rfl rfl
theorem zw2966 : Cond.instanceMethod ⟨"TemplateHouseModel", "end", "(I)I"⟩ ∈ zT := zsub13 86 (by decide +kernel) (by decide +kernel)
theorem zw2967 : Cond.selects "TemplateHouseModel" ⟨"TemplateHouseModel", "end", "(I)I"⟩ ⟨"TemplateHouseModel", "end", "(I)I"⟩ ∈ zT := zsub13 87 (by decide +kernel) (by decide +kernel)
theorem zw3397 : Cond.code ⟨"TemplateHouseModel", "fault", "(I)I"⟩ prog_15_method_109_code 2 (Option.some Jvm.ClassFile.FieldType.int) ∈ zT := zsub15 37 rfl rfl
theorem zw3395 : Cond.instanceMethod ⟨"TemplateHouseModel", "fault", "(I)I"⟩ ∈ zT := zsub15 35 (by decide +kernel) (by decide +kernel)
theorem zw3396 : Cond.selects "TemplateHouseModel" ⟨"TemplateHouseModel", "fault", "(I)I"⟩ ⟨"TemplateHouseModel", "fault", "(I)I"⟩ ∈ zT := zsub15 36 (by decide +kernel) (by decide +kernel)
theorem zw3758 : Cond.code ⟨"TemplateHouseModel", "stop", "()Z"⟩ prog_15_method_190_code 1 (Option.some Jvm.ClassFile.FieldType.boolean) ∈ zT := zsub16 158 rfl rfl
theorem zw3756 : Cond.instanceMethod ⟨"TemplateHouseModel", "stop", "()Z"⟩ ∈ zT := zsub16 156 (by decide +kernel) (by decide +kernel)
theorem zw3757 : Cond.selects "TemplateHouseModel" ⟨"TemplateHouseModel", "stop", "()Z"⟩ ⟨"TemplateHouseModel", "stop", "()Z"⟩ ∈ zT := zsub16 157 (by decide +kernel) (by decide +kernel)
theorem zw3762 : Cond.code ⟨"TemplateHouseModel", "byteOf", "(I)I"⟩ prog_15_method_191_code 2 (Option.some Jvm.ClassFile.FieldType.int) ∈ zT := zsub16 162 rfl rfl
theorem zw3760 : Cond.instanceMethod ⟨"TemplateHouseModel", "byteOf", "(I)I"⟩ ∈ zT := zsub16 160 (by decide +kernel) (by decide +kernel)
theorem zw3761 : Cond.selects "TemplateHouseModel" ⟨"TemplateHouseModel", "byteOf", "(I)I"⟩ ⟨"TemplateHouseModel", "byteOf", "(I)I"⟩ ∈ zT := zsub16 161 (by decide +kernel) (by decide +kernel)
theorem zw3766 : Cond.code ⟨"TemplateHouseModel", "error", "(II)I"⟩ prog_15_method_192_code 3 (Option.some Jvm.ClassFile.FieldType.int) ∈ zT := zsub16 166 rfl rfl
theorem zw3764 : Cond.instanceMethod ⟨"TemplateHouseModel", "error", "(II)I"⟩ ∈ zT := zsub16 164 (by decide +kernel) (by decide +kernel)
theorem zw3765 : Cond.selects "TemplateHouseModel" ⟨"TemplateHouseModel", "error", "(II)I"⟩ ⟨"TemplateHouseModel", "error", "(II)I"⟩ ∈ zT := zsub16 165 (by decide +kernel) (by decide +kernel)
theorem zw3770 : Cond.code ⟨"TemplateHouseModel", "looked", "(II)I"⟩ prog_15_method_193_code 3 (Option.some Jvm.ClassFile.FieldType.int) ∈ zT := zsub16 170 rfl rfl
theorem zw3768 : Cond.instanceMethod ⟨"TemplateHouseModel", "looked", "(II)I"⟩ ∈ zT := zsub16 168 (by decide +kernel) (by decide +kernel)
theorem zw3769 : Cond.selects "TemplateHouseModel" ⟨"TemplateHouseModel", "looked", "(II)I"⟩ ⟨"TemplateHouseModel", "looked", "(II)I"⟩ ∈ zT := zsub16 169 (by decide +kernel) (by decide +kernel)
abbrev cX14_take : ByteArray := prog_15_method_86_code
abbrev yX14_take : MethodName := ⟨"TemplateHouseModel", "take", "()V"⟩
theorem dmX14_take : zDv yX14_take cX14_take 1 none 0 := ⟨⟨⟨by decide +kernel, by decide +kernel, by decide +kernel⟩, zw2908, zw14⟩, zw2907, zwp285⟩
abbrev cX14_isMade : ByteArray := prog_15_method_87_code
abbrev yX14_isMade : MethodName := ⟨"TemplateHouseModel", "isMade", "()Z"⟩
theorem dmX14_isMade : zDv yX14_isMade cX14_isMade 1 (some .boolean) 0 := ⟨⟨⟨by decide +kernel, by decide +kernel, by decide +kernel⟩, zw2896, zw14⟩, zw2895, zwp194⟩
abbrev cX14_newValue : ByteArray := prog_15_method_88_code
abbrev yX14_newValue : MethodName := ⟨"TemplateHouseModel", "newValue", "(II)I"⟩
theorem dmX14_newValue : zDv yX14_newValue cX14_newValue 4 (some .int) 2 := ⟨⟨⟨by decide +kernel, by decide +kernel, by decide +kernel⟩, zw2892, zw14⟩, zw2891, zwp227⟩
abbrev cX14_truth : ByteArray := prog_15_method_89_code
abbrev yX14_truth : MethodName := ⟨"TemplateHouseModel", "truth", "(Z)I"⟩
theorem dmX14_truth : zDv yX14_truth cX14_truth 3 (some .int) 1 := ⟨⟨⟨by decide +kernel, by decide +kernel, by decide +kernel⟩, zw2888, zw14⟩, zw2886, zw2887⟩
abbrev cX14_number : ByteArray := prog_15_method_90_code
abbrev yX14_number : MethodName := ⟨"TemplateHouseModel", "number", "(J)I"⟩
theorem dmX14_number : zDv yX14_number cX14_number 4 (some .int) 1 := ⟨⟨⟨by decide +kernel, by decide +kernel, by decide +kernel⟩, zw2900, zw14⟩, zw2898, zw2899⟩
abbrev cX14_word : ByteArray := prog_15_method_91_code
abbrev yX14_word : MethodName := ⟨"TemplateHouseModel", "word", "()I"⟩
theorem dmX14_word : zDv yX14_word cX14_word 1 (some .int) 0 := ⟨⟨⟨by decide +kernel, by decide +kernel, by decide +kernel⟩, zw2904, zw14⟩, zw2902, zw2903⟩
abbrev cX14_bean : ByteArray := prog_15_method_94_code
abbrev yX14_bean : MethodName := ⟨"TemplateHouseModel", "bean", "()I"⟩
theorem dmX14_bean : zDv yX14_bean cX14_bean 1 (some .int) 0 := ⟨⟨⟨by decide +kernel, by decide +kernel, by decide +kernel⟩, zw2920, zw14⟩, zw2918, zw2919⟩
abbrev cX14_list : ByteArray := prog_15_method_92_code
abbrev yX14_list : MethodName := ⟨"TemplateHouseModel", "list", "()I"⟩
theorem dmX14_list : zDv yX14_list cX14_list 1 (some .int) 0 := ⟨⟨⟨by decide +kernel, by decide +kernel, by decide +kernel⟩, zw2912, zw14⟩, zw2910, zw2911⟩
abbrev cX14_map : ByteArray := prog_15_method_93_code
abbrev yX14_map : MethodName := ⟨"TemplateHouseModel", "map", "()I"⟩
theorem dmX14_map : zDv yX14_map cX14_map 1 (some .int) 0 := ⟨⟨⟨by decide +kernel, by decide +kernel, by decide +kernel⟩, zw2916, zw14⟩, zw2914, zw2915⟩
abbrev cX14_isValue : ByteArray := prog_15_method_95_code
abbrev yX14_isValue : MethodName := ⟨"TemplateHouseModel", "isValue", "(II)Z"⟩
theorem dmX14_isValue : zDv yX14_isValue cX14_isValue 3 (some .boolean) 2 := ⟨⟨⟨by decide +kernel, by decide +kernel, by decide +kernel⟩, zw2928, zw14⟩, zw2927, zwp209⟩
abbrev cX14_mayHave : ByteArray := prog_15_method_96_code
abbrev yX14_mayHave : MethodName := ⟨"TemplateHouseModel", "mayHave", "(II)Z"⟩
theorem dmX14_mayHave : zDv yX14_mayHave cX14_mayHave 3 (some .boolean) 2 := ⟨⟨⟨by decide +kernel, by decide +kernel, by decide +kernel⟩, zw2932, zw14⟩, zw2931, zwp224⟩
abbrev cX14_isTape : ByteArray := prog_15_method_98_code
abbrev yX14_isTape : MethodName := ⟨"TemplateHouseModel", "isTape", "(II)Z"⟩
theorem dmX14_isTape : zDv yX14_isTape cX14_isTape 5 (some .boolean) 2 := ⟨⟨⟨by decide +kernel, by decide +kernel, by decide +kernel⟩, zw2940, zw14⟩, zw2939, zwp205⟩
abbrev cX14_keepTape : ByteArray := prog_15_method_100_code
abbrev yX14_keepTape : MethodName := ⟨"TemplateHouseModel", "keepTape", "()I"⟩
theorem dmX14_keepTape : zDv yX14_keepTape cX14_keepTape 3 (some .int) 0 := ⟨⟨⟨by decide +kernel, by decide +kernel, by decide +kernel⟩, zw2944, zw14⟩, zw2943, zwp214⟩
abbrev cX14_attribute : ByteArray := prog_15_method_102_code
abbrev yX14_attribute : MethodName := ⟨"TemplateHouseModel", "attribute", "(I)I"⟩
theorem dmX14_attribute : zDv yX14_attribute cX14_attribute 3 (some .int) 1 := ⟨⟨⟨by decide +kernel, by decide +kernel, by decide +kernel⟩, zw2952, zw14⟩, zw2950, zw2951⟩
abbrev cX14_clear : ByteArray := prog_15_method_103_code
abbrev yX14_clear : MethodName := ⟨"TemplateHouseModel", "clear", "()Z"⟩
theorem dmX14_clear : zDv yX14_clear cX14_clear 1 (some .boolean) 0 := ⟨⟨⟨by decide +kernel, by decide +kernel, by decide +kernel⟩, zw2956, zw14⟩, zw2954, zw2955⟩
abbrev cX14_width : ByteArray := prog_15_method_104_code
abbrev yX14_width : MethodName := ⟨"TemplateHouseModel", "width", "(I)Z"⟩
theorem dmX14_width : zDv yX14_width cX14_width 2 (some .boolean) 1 := ⟨⟨⟨by decide +kernel, by decide +kernel, by decide +kernel⟩, zw2960, zw14⟩, zw2958, zw2959⟩
abbrev cX14_feed : ByteArray := prog_15_method_105_code
abbrev yX14_feed : MethodName := ⟨"TemplateHouseModel", "feed", "(IIIII)V"⟩
theorem dmX14_feed : zDv yX14_feed cX14_feed 7 none 5 := ⟨⟨⟨by decide +kernel, by decide +kernel, by decide +kernel⟩, zw2964, zw14⟩, zw2962, zw2963⟩
abbrev cX14_end : ByteArray := prog_15_method_106_code
abbrev yX14_end : MethodName := ⟨"TemplateHouseModel", "end", "(I)I"⟩
theorem dmX14_end : zDv yX14_end cX14_end 3 (some .int) 1 := ⟨⟨⟨by decide +kernel, by decide +kernel, by decide +kernel⟩, zw2968, zw14⟩, zw2966, zw2967⟩
abbrev cX14_fault : ByteArray := prog_15_method_109_code
abbrev yX14_fault : MethodName := ⟨"TemplateHouseModel", "fault", "(I)I"⟩
theorem dmX14_fault : zDv yX14_fault cX14_fault 2 (some .int) 1 := ⟨⟨⟨by decide +kernel, by decide +kernel, by decide +kernel⟩, zw3397, zw14⟩, zw3395, zw3396⟩
abbrev cX14_stop : ByteArray := prog_15_method_190_code
abbrev yX14_stop : MethodName := ⟨"TemplateHouseModel", "stop", "()Z"⟩
theorem dmX14_stop : zDv yX14_stop cX14_stop 1 (some .boolean) 0 := ⟨⟨⟨by decide +kernel, by decide +kernel, by decide +kernel⟩, zw3758, zw14⟩, zw3756, zw3757⟩
abbrev cX14_byteOf : ByteArray := prog_15_method_191_code
abbrev yX14_byteOf : MethodName := ⟨"TemplateHouseModel", "byteOf", "(I)I"⟩
theorem dmX14_byteOf : zDv yX14_byteOf cX14_byteOf 2 (some .int) 1 := ⟨⟨⟨by decide +kernel, by decide +kernel, by decide +kernel⟩, zw3762, zw14⟩, zw3760, zw3761⟩
abbrev cX14_error : ByteArray := prog_15_method_192_code
abbrev yX14_error : MethodName := ⟨"TemplateHouseModel", "error", "(II)I"⟩
theorem dmX14_error : zDv yX14_error cX14_error 3 (some .int) 2 := ⟨⟨⟨by decide +kernel, by decide +kernel, by decide +kernel⟩, zw3766, zw14⟩, zw3764, zw3765⟩
abbrev cX14_looked : ByteArray := prog_15_method_193_code
abbrev yX14_looked : MethodName := ⟨"TemplateHouseModel", "looked", "(II)I"⟩
theorem dmX14_looked : zDv yX14_looked cX14_looked 3 (some .int) 2 := ⟨⟨⟨by decide +kernel, by decide +kernel, by decide +kernel⟩, zw3770, zw14⟩, zw3768, zw3769⟩
theorem dX14_take_0 : decode cX14_take 0 = .ok (.aload_n 0, 1) := by decide +kernel
theorem dX14_take_1 : decode cX14_take 1 = .ok (.aload_n 0, 1) := by decide +kernel
theorem dX14_take_2 : decode cX14_take 2 = .ok (.getfield 788, 3) := by decide +kernel
theorem dX14_take_5 : decode cX14_take 5 = .ok (.putfield 791, 3) := by decide +kernel
theorem dX14_take_8 : decode cX14_take 8 = .ok (.aload_n 0, 1) := by decide +kernel
theorem dX14_take_9 : decode cX14_take 9 = .ok (.iconst 0, 1) := by decide +kernel
theorem dX14_take_10 : decode cX14_take 10 = .ok (.putfield 788, 3) := by decide +kernel
theorem dX14_take_13 : decode cX14_take 13 = .ok (.return_, 1) := by decide +kernel
theorem dX14_isMade_0 : decode cX14_isMade 0 = .ok (.aload_n 0, 1) := by decide +kernel
theorem dX14_isMade_1 : decode cX14_isMade 1 = .ok (.getfield 794, 3) := by decide +kernel
theorem dX14_isMade_4 : decode cX14_isMade 4 = .ok (.iconst 1, 1) := by decide +kernel
theorem dX14_isMade_5 : decode cX14_isMade 5 = .ok (.if_icmp .ne 7, 3) := by decide +kernel
theorem dX14_isMade_12 : decode cX14_isMade 12 = .ok (.iconst 0, 1) := by decide +kernel
theorem dX14_isMade_13 : decode cX14_isMade 13 = .ok (.ireturn, 1) := by decide +kernel
theorem dX14_isMade_8 : decode cX14_isMade 8 = .ok (.iconst 1, 1) := by decide +kernel
theorem dX14_isMade_9 : decode cX14_isMade 9 = .ok (.goto 4, 3) := by decide +kernel
theorem dX14_newValue_0 : decode cX14_newValue 0 = .ok (.aload_n 0, 1) := by decide +kernel
theorem dX14_newValue_1 : decode cX14_newValue 1 = .ok (.getfield 797, 3) := by decide +kernel
theorem dX14_newValue_4 : decode cX14_newValue 4 = .ok (.sipush 500, 3) := by decide +kernel
theorem dX14_newValue_7 : decode cX14_newValue 7 = .ok (.if_icmp .eq 22, 3) := by decide +kernel
theorem dX14_newValue_29 : decode cX14_newValue 29 = .ok (.iconst (-1), 1) := by decide +kernel
theorem dX14_newValue_30 : decode cX14_newValue 30 = .ok (.ireturn, 1) := by decide +kernel
theorem dX14_newValue_10 : decode cX14_newValue 10 = .ok (.aload_n 0, 1) := by decide +kernel
theorem dX14_newValue_11 : decode cX14_newValue 11 = .ok (.getfield 800, 3) := by decide +kernel
theorem dX14_newValue_14 : decode cX14_newValue 14 = .ok (.iload_n 2, 1) := by decide +kernel
theorem dX14_newValue_15 : decode cX14_newValue 15 = .ok (.iadd, 1) := by decide +kernel
theorem dX14_newValue_16 : decode cX14_newValue 16 = .ok (.sipush 16000, 3) := by decide +kernel
theorem dX14_newValue_19 : decode cX14_newValue 19 = .ok (.if_icmp .gt 10, 3) := by decide +kernel
theorem dX14_newValue_22 : decode cX14_newValue 22 = .ok (.aload_n 0, 1) := by decide +kernel
theorem dX14_newValue_23 : decode cX14_newValue 23 = .ok (.invokevirtual 803, 3) := by decide +kernel
theorem dX14_newValue_26 : decode cX14_newValue 26 = .ok (.ifCond .eq 5, 3) := by decide +kernel
theorem dX14_newValue_31 : decode cX14_newValue 31 = .ok (.aload_n 0, 1) := by decide +kernel
theorem dX14_newValue_32 : decode cX14_newValue 32 = .ok (.getfield 64, 3) := by decide +kernel
theorem dX14_newValue_35 : decode cX14_newValue 35 = .ok (.aload_n 0, 1) := by decide +kernel
theorem dX14_newValue_36 : decode cX14_newValue 36 = .ok (.getfield 797, 3) := by decide +kernel
theorem dX14_newValue_39 : decode cX14_newValue 39 = .ok (.iload_n 1, 1) := by decide +kernel
theorem dX14_newValue_40 : decode cX14_newValue 40 = .ok (.iastore, 1) := by decide +kernel
theorem dX14_newValue_41 : decode cX14_newValue 41 = .ok (.aload_n 0, 1) := by decide +kernel
theorem dX14_newValue_42 : decode cX14_newValue 42 = .ok (.getfield 80, 3) := by decide +kernel
theorem dX14_newValue_45 : decode cX14_newValue 45 = .ok (.aload_n 0, 1) := by decide +kernel
theorem dX14_newValue_46 : decode cX14_newValue 46 = .ok (.getfield 797, 3) := by decide +kernel
theorem dX14_newValue_49 : decode cX14_newValue 49 = .ok (.iconst 0, 1) := by decide +kernel
theorem dX14_newValue_50 : decode cX14_newValue 50 = .ok (.iastore, 1) := by decide +kernel
theorem dX14_newValue_51 : decode cX14_newValue 51 = .ok (.aload_n 0, 1) := by decide +kernel
theorem dX14_newValue_52 : decode cX14_newValue 52 = .ok (.getfield 74, 3) := by decide +kernel
theorem dX14_newValue_55 : decode cX14_newValue 55 = .ok (.aload_n 0, 1) := by decide +kernel
theorem dX14_newValue_56 : decode cX14_newValue 56 = .ok (.getfield 797, 3) := by decide +kernel
theorem dX14_newValue_59 : decode cX14_newValue 59 = .ok (.aload_n 0, 1) := by decide +kernel
theorem dX14_newValue_60 : decode cX14_newValue 60 = .ok (.getfield 800, 3) := by decide +kernel
theorem dX14_newValue_63 : decode cX14_newValue 63 = .ok (.iastore, 1) := by decide +kernel
theorem dX14_newValue_64 : decode cX14_newValue 64 = .ok (.aload_n 0, 1) := by decide +kernel
theorem dX14_newValue_65 : decode cX14_newValue 65 = .ok (.getfield 77, 3) := by decide +kernel
theorem dX14_newValue_68 : decode cX14_newValue 68 = .ok (.aload_n 0, 1) := by decide +kernel
theorem dX14_newValue_69 : decode cX14_newValue 69 = .ok (.getfield 797, 3) := by decide +kernel
theorem dX14_newValue_72 : decode cX14_newValue 72 = .ok (.iload_n 2, 1) := by decide +kernel
theorem dX14_newValue_73 : decode cX14_newValue 73 = .ok (.iastore, 1) := by decide +kernel
theorem dX14_newValue_74 : decode cX14_newValue 74 = .ok (.iconst 0, 1) := by decide +kernel
theorem dX14_newValue_75 : decode cX14_newValue 75 = .ok (.istore_n 3, 1) := by decide +kernel
theorem dX14_newValue_76 : decode cX14_newValue 76 = .ok (.iload_n 3, 1) := by decide +kernel
theorem dX14_newValue_77 : decode cX14_newValue 77 = .ok (.iload_n 2, 1) := by decide +kernel
theorem dX14_newValue_78 : decode cX14_newValue 78 = .ok (.if_icmp .ge 26, 3) := by decide +kernel
theorem dX14_newValue_104 : decode cX14_newValue 104 = .ok (.aload_n 0, 1) := by decide +kernel
theorem dX14_newValue_105 : decode cX14_newValue 105 = .ok (.dup, 1) := by decide +kernel
theorem dX14_newValue_106 : decode cX14_newValue 106 = .ok (.getfield 800, 3) := by decide +kernel
theorem dX14_newValue_109 : decode cX14_newValue 109 = .ok (.iload_n 2, 1) := by decide +kernel
theorem dX14_newValue_110 : decode cX14_newValue 110 = .ok (.iadd, 1) := by decide +kernel
theorem dX14_newValue_111 : decode cX14_newValue 111 = .ok (.putfield 800, 3) := by decide +kernel
theorem dX14_newValue_114 : decode cX14_newValue 114 = .ok (.aload_n 0, 1) := by decide +kernel
theorem dX14_newValue_115 : decode cX14_newValue 115 = .ok (.dup, 1) := by decide +kernel
theorem dX14_newValue_116 : decode cX14_newValue 116 = .ok (.getfield 797, 3) := by decide +kernel
theorem dX14_newValue_119 : decode cX14_newValue 119 = .ok (.iconst 1, 1) := by decide +kernel
theorem dX14_newValue_120 : decode cX14_newValue 120 = .ok (.iadd, 1) := by decide +kernel
theorem dX14_newValue_121 : decode cX14_newValue 121 = .ok (.putfield 797, 3) := by decide +kernel
theorem dX14_newValue_124 : decode cX14_newValue 124 = .ok (.aload_n 0, 1) := by decide +kernel
theorem dX14_newValue_125 : decode cX14_newValue 125 = .ok (.getfield 797, 3) := by decide +kernel
theorem dX14_newValue_128 : decode cX14_newValue 128 = .ok (.iconst 1, 1) := by decide +kernel
theorem dX14_newValue_129 : decode cX14_newValue 129 = .ok (.isub, 1) := by decide +kernel
theorem dX14_newValue_130 : decode cX14_newValue 130 = .ok (.ireturn, 1) := by decide +kernel
theorem dX14_newValue_81 : decode cX14_newValue 81 = .ok (.aload_n 0, 1) := by decide +kernel
theorem dX14_newValue_82 : decode cX14_newValue 82 = .ok (.getfield 71, 3) := by decide +kernel
theorem dX14_newValue_85 : decode cX14_newValue 85 = .ok (.aload_n 0, 1) := by decide +kernel
theorem dX14_newValue_86 : decode cX14_newValue 86 = .ok (.getfield 800, 3) := by decide +kernel
theorem dX14_newValue_89 : decode cX14_newValue 89 = .ok (.iload_n 3, 1) := by decide +kernel
theorem dX14_newValue_90 : decode cX14_newValue 90 = .ok (.iadd, 1) := by decide +kernel
theorem dX14_newValue_91 : decode cX14_newValue 91 = .ok (.aload_n 0, 1) := by decide +kernel
theorem dX14_newValue_92 : decode cX14_newValue 92 = .ok (.getfield 13, 3) := by decide +kernel
theorem dX14_newValue_95 : decode cX14_newValue 95 = .ok (.iload_n 3, 1) := by decide +kernel
theorem dX14_newValue_96 : decode cX14_newValue 96 = .ok (.baload, 1) := by decide +kernel
theorem dX14_newValue_97 : decode cX14_newValue 97 = .ok (.bastore, 1) := by decide +kernel
theorem dX14_newValue_98 : decode cX14_newValue 98 = .ok (.iinc 3 1, 3) := by decide +kernel
theorem dX14_newValue_101 : decode cX14_newValue 101 = .ok (.goto (-25), 3) := by decide +kernel
theorem dX14_truth_0 : decode cX14_truth 0 = .ok (.aload_n 0, 1) := by decide +kernel
theorem dX14_truth_1 : decode cX14_truth 1 = .ok (.iconst 0, 1) := by decide +kernel
theorem dX14_truth_2 : decode cX14_truth 2 = .ok (.putfield 806, 3) := by decide +kernel
theorem dX14_truth_5 : decode cX14_truth 5 = .ok (.aload_n 0, 1) := by decide +kernel
theorem dX14_truth_6 : decode cX14_truth 6 = .ok (.iconst 0, 1) := by decide +kernel
theorem dX14_truth_7 : decode cX14_truth 7 = .ok (.iconst 0, 1) := by decide +kernel
theorem dX14_truth_8 : decode cX14_truth 8 = .ok (.invokevirtual 809, 3) := by decide +kernel
theorem dX14_truth_11 : decode cX14_truth 11 = .ok (.istore_n 2, 1) := by decide +kernel
theorem dX14_truth_12 : decode cX14_truth 12 = .ok (.iload_n 2, 1) := by decide +kernel
theorem dX14_truth_13 : decode cX14_truth 13 = .ok (.ifCond .lt 18, 3) := by decide +kernel
theorem dX14_truth_31 : decode cX14_truth 31 = .ok (.iload_n 2, 1) := by decide +kernel
theorem dX14_truth_32 : decode cX14_truth 32 = .ok (.ireturn, 1) := by decide +kernel
theorem dX14_truth_16 : decode cX14_truth 16 = .ok (.aload_n 0, 1) := by decide +kernel
theorem dX14_truth_17 : decode cX14_truth 17 = .ok (.getfield 67, 3) := by decide +kernel
theorem dX14_truth_20 : decode cX14_truth 20 = .ok (.iload_n 2, 1) := by decide +kernel
theorem dX14_truth_21 : decode cX14_truth 21 = .ok (.iload_n 1, 1) := by decide +kernel
theorem dX14_truth_22 : decode cX14_truth 22 = .ok (.ifCond .eq 7, 3) := by decide +kernel
theorem dX14_truth_29 : decode cX14_truth 29 = .ok (.lconst 0, 1) := by decide +kernel
theorem dX14_truth_30 : decode cX14_truth 30 = .ok (.lastore, 1) := by decide +kernel
theorem dX14_truth_25 : decode cX14_truth 25 = .ok (.lconst 1, 1) := by decide +kernel
theorem dX14_truth_26 : decode cX14_truth 26 = .ok (.goto 4, 3) := by decide +kernel
theorem dX14_number_0 : decode cX14_number 0 = .ok (.aload_n 0, 1) := by decide +kernel
theorem dX14_number_1 : decode cX14_number 1 = .ok (.iconst 0, 1) := by decide +kernel
theorem dX14_number_2 : decode cX14_number 2 = .ok (.putfield 806, 3) := by decide +kernel
theorem dX14_number_5 : decode cX14_number 5 = .ok (.aload_n 0, 1) := by decide +kernel
theorem dX14_number_6 : decode cX14_number 6 = .ok (.iconst 1, 1) := by decide +kernel
theorem dX14_number_7 : decode cX14_number 7 = .ok (.iconst 0, 1) := by decide +kernel
theorem dX14_number_8 : decode cX14_number 8 = .ok (.invokevirtual 809, 3) := by decide +kernel
theorem dX14_number_11 : decode cX14_number 11 = .ok (.istore_n 3, 1) := by decide +kernel
theorem dX14_number_12 : decode cX14_number 12 = .ok (.iload_n 3, 1) := by decide +kernel
theorem dX14_number_13 : decode cX14_number 13 = .ok (.ifCond .lt 10, 3) := by decide +kernel
theorem dX14_number_23 : decode cX14_number 23 = .ok (.iload_n 3, 1) := by decide +kernel
theorem dX14_number_24 : decode cX14_number 24 = .ok (.ireturn, 1) := by decide +kernel
theorem dX14_number_16 : decode cX14_number 16 = .ok (.aload_n 0, 1) := by decide +kernel
theorem dX14_number_17 : decode cX14_number 17 = .ok (.getfield 67, 3) := by decide +kernel
theorem dX14_number_20 : decode cX14_number 20 = .ok (.iload_n 3, 1) := by decide +kernel
theorem dX14_number_21 : decode cX14_number 21 = .ok (.lload_n 1, 1) := by decide +kernel
theorem dX14_number_22 : decode cX14_number 22 = .ok (.lastore, 1) := by decide +kernel
theorem dX14_word_0 : decode cX14_word 0 = .ok (.aload_n 0, 1) := by decide +kernel
theorem dX14_word_1 : decode cX14_word 1 = .ok (.iconst 0, 1) := by decide +kernel
theorem dX14_word_2 : decode cX14_word 2 = .ok (.putfield 806, 3) := by decide +kernel
theorem dX14_word_5 : decode cX14_word 5 = .ok (.aload_n 0, 1) := by decide +kernel
theorem dX14_word_6 : decode cX14_word 6 = .ok (.invokevirtual 812, 3) := by decide +kernel
theorem dX14_word_9 : decode cX14_word 9 = .ok (.aload_n 0, 1) := by decide +kernel
theorem dX14_word_10 : decode cX14_word 10 = .ok (.iconst 2, 1) := by decide +kernel
theorem dX14_word_11 : decode cX14_word 11 = .ok (.aload_n 0, 1) := by decide +kernel
theorem dX14_word_12 : decode cX14_word 12 = .ok (.getfield 791, 3) := by decide +kernel
theorem dX14_word_15 : decode cX14_word 15 = .ok (.invokevirtual 809, 3) := by decide +kernel
theorem dX14_word_18 : decode cX14_word 18 = .ok (.ireturn, 1) := by decide +kernel
theorem dX14_bean_0 : decode cX14_bean 0 = .ok (.aload_n 0, 1) := by decide +kernel
theorem dX14_bean_1 : decode cX14_bean 1 = .ok (.iconst 0, 1) := by decide +kernel
theorem dX14_bean_2 : decode cX14_bean 2 = .ok (.putfield 806, 3) := by decide +kernel
theorem dX14_bean_5 : decode cX14_bean 5 = .ok (.aload_n 0, 1) := by decide +kernel
theorem dX14_bean_6 : decode cX14_bean 6 = .ok (.invokevirtual 812, 3) := by decide +kernel
theorem dX14_bean_9 : decode cX14_bean 9 = .ok (.aload_n 0, 1) := by decide +kernel
theorem dX14_bean_10 : decode cX14_bean 10 = .ok (.iconst 5, 1) := by decide +kernel
theorem dX14_bean_11 : decode cX14_bean 11 = .ok (.aload_n 0, 1) := by decide +kernel
theorem dX14_bean_12 : decode cX14_bean 12 = .ok (.getfield 791, 3) := by decide +kernel
theorem dX14_bean_15 : decode cX14_bean 15 = .ok (.invokevirtual 809, 3) := by decide +kernel
theorem dX14_bean_18 : decode cX14_bean 18 = .ok (.ireturn, 1) := by decide +kernel
theorem dX14_list_0 : decode cX14_list 0 = .ok (.aload_n 0, 1) := by decide +kernel
theorem dX14_list_1 : decode cX14_list 1 = .ok (.iconst 0, 1) := by decide +kernel
theorem dX14_list_2 : decode cX14_list 2 = .ok (.putfield 806, 3) := by decide +kernel
theorem dX14_list_5 : decode cX14_list 5 = .ok (.aload_n 0, 1) := by decide +kernel
theorem dX14_list_6 : decode cX14_list 6 = .ok (.iconst 3, 1) := by decide +kernel
theorem dX14_list_7 : decode cX14_list 7 = .ok (.iconst 0, 1) := by decide +kernel
theorem dX14_list_8 : decode cX14_list 8 = .ok (.invokevirtual 809, 3) := by decide +kernel
theorem dX14_list_11 : decode cX14_list 11 = .ok (.ireturn, 1) := by decide +kernel
theorem dX14_map_0 : decode cX14_map 0 = .ok (.aload_n 0, 1) := by decide +kernel
theorem dX14_map_1 : decode cX14_map 1 = .ok (.iconst 0, 1) := by decide +kernel
theorem dX14_map_2 : decode cX14_map 2 = .ok (.putfield 806, 3) := by decide +kernel
theorem dX14_map_5 : decode cX14_map 5 = .ok (.aload_n 0, 1) := by decide +kernel
theorem dX14_map_6 : decode cX14_map 6 = .ok (.iconst 4, 1) := by decide +kernel
theorem dX14_map_7 : decode cX14_map 7 = .ok (.iconst 0, 1) := by decide +kernel
theorem dX14_map_8 : decode cX14_map 8 = .ok (.invokevirtual 809, 3) := by decide +kernel
theorem dX14_map_11 : decode cX14_map 11 = .ok (.ireturn, 1) := by decide +kernel
theorem dX14_isValue_0 : decode cX14_isValue 0 = .ok (.iload_n 1, 1) := by decide +kernel
theorem dX14_isValue_1 : decode cX14_isValue 1 = .ok (.ifCond .lt 25, 3) := by decide +kernel
theorem dX14_isValue_26 : decode cX14_isValue 26 = .ok (.iconst 0, 1) := by decide +kernel
theorem dX14_isValue_27 : decode cX14_isValue 27 = .ok (.ireturn, 1) := by decide +kernel
theorem dX14_isValue_4 : decode cX14_isValue 4 = .ok (.iload_n 1, 1) := by decide +kernel
theorem dX14_isValue_5 : decode cX14_isValue 5 = .ok (.aload_n 0, 1) := by decide +kernel
theorem dX14_isValue_6 : decode cX14_isValue 6 = .ok (.getfield 797, 3) := by decide +kernel
theorem dX14_isValue_9 : decode cX14_isValue 9 = .ok (.if_icmp .ge 17, 3) := by decide +kernel
theorem dX14_isValue_12 : decode cX14_isValue 12 = .ok (.aload_n 0, 1) := by decide +kernel
theorem dX14_isValue_13 : decode cX14_isValue 13 = .ok (.getfield 64, 3) := by decide +kernel
theorem dX14_isValue_16 : decode cX14_isValue 16 = .ok (.iload_n 1, 1) := by decide +kernel
theorem dX14_isValue_17 : decode cX14_isValue 17 = .ok (.iaload, 1) := by decide +kernel
theorem dX14_isValue_18 : decode cX14_isValue 18 = .ok (.iload_n 2, 1) := by decide +kernel
theorem dX14_isValue_19 : decode cX14_isValue 19 = .ok (.if_icmp .ne 7, 3) := by decide +kernel
theorem dX14_isValue_22 : decode cX14_isValue 22 = .ok (.iconst 1, 1) := by decide +kernel
theorem dX14_isValue_23 : decode cX14_isValue 23 = .ok (.goto 4, 3) := by decide +kernel
theorem dX14_mayHave_0 : decode cX14_mayHave 0 = .ok (.iload_n 2, 1) := by decide +kernel
theorem dX14_mayHave_1 : decode cX14_mayHave 1 = .ok (.iconst (-1), 1) := by decide +kernel
theorem dX14_mayHave_2 : decode cX14_mayHave 2 = .ok (.if_icmp .eq 30, 3) := by decide +kernel
theorem dX14_mayHave_32 : decode cX14_mayHave 32 = .ok (.iconst 1, 1) := by decide +kernel
theorem dX14_mayHave_33 : decode cX14_mayHave 33 = .ok (.goto 4, 3) := by decide +kernel
theorem dX14_mayHave_37 : decode cX14_mayHave 37 = .ok (.ireturn, 1) := by decide +kernel
theorem dX14_mayHave_5 : decode cX14_mayHave 5 = .ok (.iload_n 2, 1) := by decide +kernel
theorem dX14_mayHave_6 : decode cX14_mayHave 6 = .ok (.ifCond .lt 30, 3) := by decide +kernel
theorem dX14_mayHave_36 : decode cX14_mayHave 36 = .ok (.iconst 0, 1) := by decide +kernel
theorem dX14_mayHave_9 : decode cX14_mayHave 9 = .ok (.iload_n 2, 1) := by decide +kernel
theorem dX14_mayHave_10 : decode cX14_mayHave 10 = .ok (.aload_n 0, 1) := by decide +kernel
theorem dX14_mayHave_11 : decode cX14_mayHave 11 = .ok (.getfield 797, 3) := by decide +kernel
theorem dX14_mayHave_14 : decode cX14_mayHave 14 = .ok (.if_icmp .ge 22, 3) := by decide +kernel
theorem dX14_mayHave_17 : decode cX14_mayHave 17 = .ok (.iload_n 2, 1) := by decide +kernel
theorem dX14_mayHave_18 : decode cX14_mayHave 18 = .ok (.iload_n 1, 1) := by decide +kernel
theorem dX14_mayHave_19 : decode cX14_mayHave 19 = .ok (.if_icmp .lt 13, 3) := by decide +kernel
theorem dX14_mayHave_22 : decode cX14_mayHave 22 = .ok (.aload_n 0, 1) := by decide +kernel
theorem dX14_mayHave_23 : decode cX14_mayHave 23 = .ok (.getfield 64, 3) := by decide +kernel
theorem dX14_mayHave_26 : decode cX14_mayHave 26 = .ok (.iload_n 2, 1) := by decide +kernel
theorem dX14_mayHave_27 : decode cX14_mayHave 27 = .ok (.iaload, 1) := by decide +kernel
theorem dX14_mayHave_28 : decode cX14_mayHave 28 = .ok (.iconst 5, 1) := by decide +kernel
theorem dX14_mayHave_29 : decode cX14_mayHave 29 = .ok (.if_icmp .ne 7, 3) := by decide +kernel
theorem dX14_isTape_0 : decode cX14_isTape 0 = .ok (.iload_n 2, 1) := by decide +kernel
theorem dX14_isTape_1 : decode cX14_isTape 1 = .ok (.aload_n 0, 1) := by decide +kernel
theorem dX14_isTape_2 : decode cX14_isTape 2 = .ok (.getfield 791, 3) := by decide +kernel
theorem dX14_isTape_5 : decode cX14_isTape 5 = .ok (.if_icmp .ne 7, 3) := by decide +kernel
theorem dX14_isTape_12 : decode cX14_isTape 12 = .ok (.iconst 0, 1) := by decide +kernel
theorem dX14_isTape_13 : decode cX14_isTape 13 = .ok (.istore_n 3, 1) := by decide +kernel
theorem dX14_isTape_14 : decode cX14_isTape 14 = .ok (.iconst 0, 1) := by decide +kernel
theorem dX14_isTape_15 : decode cX14_isTape 15 = .ok (.istore 4, 2) := by decide +kernel
theorem dX14_isTape_17 : decode cX14_isTape 17 = .ok (.iload 4, 2) := by decide +kernel
theorem dX14_isTape_19 : decode cX14_isTape 19 = .ok (.iload_n 2, 1) := by decide +kernel
theorem dX14_isTape_20 : decode cX14_isTape 20 = .ok (.if_icmp .ge 38, 3) := by decide +kernel
theorem dX14_isTape_58 : decode cX14_isTape 58 = .ok (.iload_n 3, 1) := by decide +kernel
theorem dX14_isTape_59 : decode cX14_isTape 59 = .ok (.ireturn, 1) := by decide +kernel
theorem dX14_isTape_23 : decode cX14_isTape 23 = .ok (.iload_n 3, 1) := by decide +kernel
theorem dX14_isTape_24 : decode cX14_isTape 24 = .ok (.ifCond .eq 34, 3) := by decide +kernel
theorem dX14_isTape_27 : decode cX14_isTape 27 = .ok (.aload_n 0, 1) := by decide +kernel
theorem dX14_isTape_28 : decode cX14_isTape 28 = .ok (.getfield 71, 3) := by decide +kernel
theorem dX14_isTape_31 : decode cX14_isTape 31 = .ok (.iload_n 1, 1) := by decide +kernel
theorem dX14_isTape_32 : decode cX14_isTape 32 = .ok (.iload 4, 2) := by decide +kernel
theorem dX14_isTape_34 : decode cX14_isTape 34 = .ok (.iadd, 1) := by decide +kernel
theorem dX14_isTape_35 : decode cX14_isTape 35 = .ok (.baload, 1) := by decide +kernel
theorem dX14_isTape_36 : decode cX14_isTape 36 = .ok (.aload_n 0, 1) := by decide +kernel
theorem dX14_isTape_37 : decode cX14_isTape 37 = .ok (.getfield 13, 3) := by decide +kernel
theorem dX14_isTape_40 : decode cX14_isTape 40 = .ok (.iload 4, 2) := by decide +kernel
theorem dX14_isTape_42 : decode cX14_isTape 42 = .ok (.baload, 1) := by decide +kernel
theorem dX14_isTape_43 : decode cX14_isTape 43 = .ok (.if_icmp .ne 7, 3) := by decide +kernel
theorem dX14_isTape_50 : decode cX14_isTape 50 = .ok (.iconst 0, 1) := by decide +kernel
theorem dX14_isTape_51 : decode cX14_isTape 51 = .ok (.istore_n 3, 1) := by decide +kernel
theorem dX14_isTape_52 : decode cX14_isTape 52 = .ok (.iinc 4 1, 3) := by decide +kernel
theorem dX14_isTape_55 : decode cX14_isTape 55 = .ok (.goto (-38), 3) := by decide +kernel
theorem dX14_isTape_46 : decode cX14_isTape 46 = .ok (.iconst 1, 1) := by decide +kernel
theorem dX14_isTape_47 : decode cX14_isTape 47 = .ok (.goto 4, 3) := by decide +kernel
theorem dX14_isTape_8 : decode cX14_isTape 8 = .ok (.iconst 1, 1) := by decide +kernel
theorem dX14_isTape_9 : decode cX14_isTape 9 = .ok (.goto 4, 3) := by decide +kernel
theorem dX14_keepTape_0 : decode cX14_keepTape 0 = .ok (.aload_n 0, 1) := by decide +kernel
theorem dX14_keepTape_1 : decode cX14_keepTape 1 = .ok (.getfield 800, 3) := by decide +kernel
theorem dX14_keepTape_4 : decode cX14_keepTape 4 = .ok (.istore_n 1, 1) := by decide +kernel
theorem dX14_keepTape_5 : decode cX14_keepTape 5 = .ok (.iconst 0, 1) := by decide +kernel
theorem dX14_keepTape_6 : decode cX14_keepTape 6 = .ok (.istore_n 2, 1) := by decide +kernel
theorem dX14_keepTape_7 : decode cX14_keepTape 7 = .ok (.iload_n 2, 1) := by decide +kernel
theorem dX14_keepTape_8 : decode cX14_keepTape 8 = .ok (.aload_n 0, 1) := by decide +kernel
theorem dX14_keepTape_9 : decode cX14_keepTape 9 = .ok (.getfield 791, 3) := by decide +kernel
theorem dX14_keepTape_12 : decode cX14_keepTape 12 = .ok (.if_icmp .ge 26, 3) := by decide +kernel
theorem dX14_keepTape_38 : decode cX14_keepTape 38 = .ok (.aload_n 0, 1) := by decide +kernel
theorem dX14_keepTape_39 : decode cX14_keepTape 39 = .ok (.dup, 1) := by decide +kernel
theorem dX14_keepTape_40 : decode cX14_keepTape 40 = .ok (.getfield 800, 3) := by decide +kernel
theorem dX14_keepTape_43 : decode cX14_keepTape 43 = .ok (.aload_n 0, 1) := by decide +kernel
theorem dX14_keepTape_44 : decode cX14_keepTape 44 = .ok (.getfield 791, 3) := by decide +kernel
theorem dX14_keepTape_47 : decode cX14_keepTape 47 = .ok (.iadd, 1) := by decide +kernel
theorem dX14_keepTape_48 : decode cX14_keepTape 48 = .ok (.putfield 800, 3) := by decide +kernel
theorem dX14_keepTape_51 : decode cX14_keepTape 51 = .ok (.iload_n 1, 1) := by decide +kernel
theorem dX14_keepTape_52 : decode cX14_keepTape 52 = .ok (.ireturn, 1) := by decide +kernel
theorem dX14_keepTape_15 : decode cX14_keepTape 15 = .ok (.aload_n 0, 1) := by decide +kernel
theorem dX14_keepTape_16 : decode cX14_keepTape 16 = .ok (.getfield 71, 3) := by decide +kernel
theorem dX14_keepTape_19 : decode cX14_keepTape 19 = .ok (.aload_n 0, 1) := by decide +kernel
theorem dX14_keepTape_20 : decode cX14_keepTape 20 = .ok (.getfield 800, 3) := by decide +kernel
theorem dX14_keepTape_23 : decode cX14_keepTape 23 = .ok (.iload_n 2, 1) := by decide +kernel
theorem dX14_keepTape_24 : decode cX14_keepTape 24 = .ok (.iadd, 1) := by decide +kernel
theorem dX14_keepTape_25 : decode cX14_keepTape 25 = .ok (.aload_n 0, 1) := by decide +kernel
theorem dX14_keepTape_26 : decode cX14_keepTape 26 = .ok (.getfield 13, 3) := by decide +kernel
theorem dX14_keepTape_29 : decode cX14_keepTape 29 = .ok (.iload_n 2, 1) := by decide +kernel
theorem dX14_keepTape_30 : decode cX14_keepTape 30 = .ok (.baload, 1) := by decide +kernel
theorem dX14_keepTape_31 : decode cX14_keepTape 31 = .ok (.bastore, 1) := by decide +kernel
theorem dX14_keepTape_32 : decode cX14_keepTape 32 = .ok (.iinc 2 1, 3) := by decide +kernel
theorem dX14_keepTape_35 : decode cX14_keepTape 35 = .ok (.goto (-28), 3) := by decide +kernel
theorem dX14_attribute_0 : decode cX14_attribute 0 = .ok (.aload_n 0, 1) := by decide +kernel
theorem dX14_attribute_1 : decode cX14_attribute 1 = .ok (.iconst 0, 1) := by decide +kernel
theorem dX14_attribute_2 : decode cX14_attribute 2 = .ok (.putfield 806, 3) := by decide +kernel
theorem dX14_attribute_5 : decode cX14_attribute 5 = .ok (.aload_n 0, 1) := by decide +kernel
theorem dX14_attribute_6 : decode cX14_attribute 6 = .ok (.invokevirtual 812, 3) := by decide +kernel
theorem dX14_attribute_9 : decode cX14_attribute 9 = .ok (.aload_n 0, 1) := by decide +kernel
theorem dX14_attribute_10 : decode cX14_attribute 10 = .ok (.invokevirtual 803, 3) := by decide +kernel
theorem dX14_attribute_13 : decode cX14_attribute 13 = .ok (.ifCond .ne 42, 3) := by decide +kernel
theorem dX14_attribute_55 : decode cX14_attribute 55 = .ok (.iconst (-1), 1) := by decide +kernel
theorem dX14_attribute_56 : decode cX14_attribute 56 = .ok (.ireturn, 1) := by decide +kernel
theorem dX14_attribute_16 : decode cX14_attribute 16 = .ok (.iload_n 1, 1) := by decide +kernel
theorem dX14_attribute_17 : decode cX14_attribute 17 = .ok (.iconst (-1), 1) := by decide +kernel
theorem dX14_attribute_18 : decode cX14_attribute 18 = .ok (.if_icmp .lt 37, 3) := by decide +kernel
theorem dX14_attribute_21 : decode cX14_attribute 21 = .ok (.iload_n 1, 1) := by decide +kernel
theorem dX14_attribute_22 : decode cX14_attribute 22 = .ok (.aload_n 0, 1) := by decide +kernel
theorem dX14_attribute_23 : decode cX14_attribute 23 = .ok (.getfield 797, 3) := by decide +kernel
theorem dX14_attribute_26 : decode cX14_attribute 26 = .ok (.if_icmp .ge 29, 3) := by decide +kernel
theorem dX14_attribute_29 : decode cX14_attribute 29 = .ok (.aload_n 0, 1) := by decide +kernel
theorem dX14_attribute_30 : decode cX14_attribute 30 = .ok (.getfield 791, 3) := by decide +kernel
theorem dX14_attribute_33 : decode cX14_attribute 33 = .ok (.iconst 1, 1) := by decide +kernel
theorem dX14_attribute_34 : decode cX14_attribute 34 = .ok (.if_icmp .lt 21, 3) := by decide +kernel
theorem dX14_attribute_37 : decode cX14_attribute 37 = .ok (.aload_n 0, 1) := by decide +kernel
theorem dX14_attribute_38 : decode cX14_attribute 38 = .ok (.getfield 791, 3) := by decide +kernel
theorem dX14_attribute_41 : decode cX14_attribute 41 = .ok (.bipush 16, 2) := by decide +kernel
theorem dX14_attribute_43 : decode cX14_attribute 43 = .ok (.if_icmp .gt 12, 3) := by decide +kernel
theorem dX14_attribute_46 : decode cX14_attribute 46 = .ok (.aload_n 0, 1) := by decide +kernel
theorem dX14_attribute_47 : decode cX14_attribute 47 = .ok (.getfield 830, 3) := by decide +kernel
theorem dX14_attribute_50 : decode cX14_attribute 50 = .ok (.bipush 40, 2) := by decide +kernel
theorem dX14_attribute_52 : decode cX14_attribute 52 = .ok (.if_icmp .ne 5, 3) := by decide +kernel
theorem dX14_attribute_57 : decode cX14_attribute 57 = .ok (.aload_n 0, 1) := by decide +kernel
theorem dX14_attribute_58 : decode cX14_attribute 58 = .ok (.getfield 108, 3) := by decide +kernel
theorem dX14_attribute_61 : decode cX14_attribute 61 = .ok (.aload_n 0, 1) := by decide +kernel
theorem dX14_attribute_62 : decode cX14_attribute 62 = .ok (.getfield 830, 3) := by decide +kernel
theorem dX14_attribute_65 : decode cX14_attribute 65 = .ok (.bipush 16, 2) := by decide +kernel
theorem dX14_attribute_67 : decode cX14_attribute 67 = .ok (.aload_n 0, 1) := by decide +kernel
theorem dX14_attribute_68 : decode cX14_attribute 68 = .ok (.getfield 830, 3) := by decide +kernel
theorem dX14_attribute_71 : decode cX14_attribute 71 = .ok (.imul, 1) := by decide +kernel
theorem dX14_attribute_72 : decode cX14_attribute 72 = .ok (.iastore, 1) := by decide +kernel
theorem dX14_attribute_73 : decode cX14_attribute 73 = .ok (.aload_n 0, 1) := by decide +kernel
theorem dX14_attribute_74 : decode cX14_attribute 74 = .ok (.getfield 111, 3) := by decide +kernel
theorem dX14_attribute_77 : decode cX14_attribute 77 = .ok (.aload_n 0, 1) := by decide +kernel
theorem dX14_attribute_78 : decode cX14_attribute 78 = .ok (.getfield 830, 3) := by decide +kernel
theorem dX14_attribute_81 : decode cX14_attribute 81 = .ok (.aload_n 0, 1) := by decide +kernel
theorem dX14_attribute_82 : decode cX14_attribute 82 = .ok (.getfield 791, 3) := by decide +kernel
theorem dX14_attribute_85 : decode cX14_attribute 85 = .ok (.iastore, 1) := by decide +kernel
theorem dX14_attribute_86 : decode cX14_attribute 86 = .ok (.aload_n 0, 1) := by decide +kernel
theorem dX14_attribute_87 : decode cX14_attribute 87 = .ok (.getfield 114, 3) := by decide +kernel
theorem dX14_attribute_90 : decode cX14_attribute 90 = .ok (.aload_n 0, 1) := by decide +kernel
theorem dX14_attribute_91 : decode cX14_attribute 91 = .ok (.getfield 830, 3) := by decide +kernel
theorem dX14_attribute_94 : decode cX14_attribute 94 = .ok (.iload_n 1, 1) := by decide +kernel
theorem dX14_attribute_95 : decode cX14_attribute 95 = .ok (.iastore, 1) := by decide +kernel
theorem dX14_attribute_96 : decode cX14_attribute 96 = .ok (.iconst 0, 1) := by decide +kernel
theorem dX14_attribute_97 : decode cX14_attribute 97 = .ok (.istore_n 2, 1) := by decide +kernel
theorem dX14_attribute_98 : decode cX14_attribute 98 = .ok (.iload_n 2, 1) := by decide +kernel
theorem dX14_attribute_99 : decode cX14_attribute 99 = .ok (.aload_n 0, 1) := by decide +kernel
theorem dX14_attribute_100 : decode cX14_attribute 100 = .ok (.getfield 791, 3) := by decide +kernel
theorem dX14_attribute_103 : decode cX14_attribute 103 = .ok (.if_icmp .ge 29, 3) := by decide +kernel
theorem dX14_attribute_132 : decode cX14_attribute 132 = .ok (.aload_n 0, 1) := by decide +kernel
theorem dX14_attribute_133 : decode cX14_attribute 133 = .ok (.dup, 1) := by decide +kernel
theorem dX14_attribute_134 : decode cX14_attribute 134 = .ok (.getfield 830, 3) := by decide +kernel
theorem dX14_attribute_137 : decode cX14_attribute 137 = .ok (.iconst 1, 1) := by decide +kernel
theorem dX14_attribute_138 : decode cX14_attribute 138 = .ok (.iadd, 1) := by decide +kernel
theorem dX14_attribute_139 : decode cX14_attribute 139 = .ok (.putfield 830, 3) := by decide +kernel
theorem dX14_attribute_142 : decode cX14_attribute 142 = .ok (.aload_n 0, 1) := by decide +kernel
theorem dX14_attribute_143 : decode cX14_attribute 143 = .ok (.getfield 830, 3) := by decide +kernel
theorem dX14_attribute_146 : decode cX14_attribute 146 = .ok (.ireturn, 1) := by decide +kernel
theorem dX14_attribute_106 : decode cX14_attribute 106 = .ok (.aload_n 0, 1) := by decide +kernel
theorem dX14_attribute_107 : decode cX14_attribute 107 = .ok (.getfield 117, 3) := by decide +kernel
theorem dX14_attribute_110 : decode cX14_attribute 110 = .ok (.bipush 16, 2) := by decide +kernel
theorem dX14_attribute_112 : decode cX14_attribute 112 = .ok (.aload_n 0, 1) := by decide +kernel
theorem dX14_attribute_113 : decode cX14_attribute 113 = .ok (.getfield 830, 3) := by decide +kernel
theorem dX14_attribute_116 : decode cX14_attribute 116 = .ok (.imul, 1) := by decide +kernel
theorem dX14_attribute_117 : decode cX14_attribute 117 = .ok (.iload_n 2, 1) := by decide +kernel
theorem dX14_attribute_118 : decode cX14_attribute 118 = .ok (.iadd, 1) := by decide +kernel
theorem dX14_attribute_119 : decode cX14_attribute 119 = .ok (.aload_n 0, 1) := by decide +kernel
theorem dX14_attribute_120 : decode cX14_attribute 120 = .ok (.getfield 13, 3) := by decide +kernel
theorem dX14_attribute_123 : decode cX14_attribute 123 = .ok (.iload_n 2, 1) := by decide +kernel
theorem dX14_attribute_124 : decode cX14_attribute 124 = .ok (.baload, 1) := by decide +kernel
theorem dX14_attribute_125 : decode cX14_attribute 125 = .ok (.bastore, 1) := by decide +kernel
theorem dX14_attribute_126 : decode cX14_attribute 126 = .ok (.iinc 2 1, 3) := by decide +kernel
theorem dX14_attribute_129 : decode cX14_attribute 129 = .ok (.goto (-31), 3) := by decide +kernel
theorem dX14_clear_0 : decode cX14_clear 0 = .ok (.aload_n 0, 1) := by decide +kernel
theorem dX14_clear_1 : decode cX14_clear 1 = .ok (.iconst 0, 1) := by decide +kernel
theorem dX14_clear_2 : decode cX14_clear 2 = .ok (.putfield 806, 3) := by decide +kernel
theorem dX14_clear_5 : decode cX14_clear 5 = .ok (.aload_n 0, 1) := by decide +kernel
theorem dX14_clear_6 : decode cX14_clear 6 = .ok (.invokevirtual 803, 3) := by decide +kernel
theorem dX14_clear_9 : decode cX14_clear 9 = .ok (.ifCond .eq 5, 3) := by decide +kernel
theorem dX14_clear_14 : decode cX14_clear 14 = .ok (.aload_n 0, 1) := by decide +kernel
theorem dX14_clear_15 : decode cX14_clear 15 = .ok (.iconst 0, 1) := by decide +kernel
theorem dX14_clear_16 : decode cX14_clear 16 = .ok (.putfield 830, 3) := by decide +kernel
theorem dX14_clear_19 : decode cX14_clear 19 = .ok (.iconst 1, 1) := by decide +kernel
theorem dX14_clear_20 : decode cX14_clear 20 = .ok (.ireturn, 1) := by decide +kernel
theorem dX14_clear_12 : decode cX14_clear 12 = .ok (.iconst 0, 1) := by decide +kernel
theorem dX14_clear_13 : decode cX14_clear 13 = .ok (.ireturn, 1) := by decide +kernel
theorem dX14_width_0 : decode cX14_width 0 = .ok (.aload_n 0, 1) := by decide +kernel
theorem dX14_width_1 : decode cX14_width 1 = .ok (.iconst 0, 1) := by decide +kernel
theorem dX14_width_2 : decode cX14_width 2 = .ok (.putfield 806, 3) := by decide +kernel
theorem dX14_width_5 : decode cX14_width 5 = .ok (.iload_n 1, 1) := by decide +kernel
theorem dX14_width_6 : decode cX14_width 6 = .ok (.ifCond .lt 10, 3) := by decide +kernel
theorem dX14_width_16 : decode cX14_width 16 = .ok (.iconst 0, 1) := by decide +kernel
theorem dX14_width_17 : decode cX14_width 17 = .ok (.ireturn, 1) := by decide +kernel
theorem dX14_width_9 : decode cX14_width 9 = .ok (.iload_n 1, 1) := by decide +kernel
theorem dX14_width_10 : decode cX14_width 10 = .ok (.sipush 1000, 3) := by decide +kernel
theorem dX14_width_13 : decode cX14_width 13 = .ok (.if_icmp .le 5, 3) := by decide +kernel
theorem dX14_width_18 : decode cX14_width 18 = .ok (.aload_n 0, 1) := by decide +kernel
theorem dX14_width_19 : decode cX14_width 19 = .ok (.iload_n 1, 1) := by decide +kernel
theorem dX14_width_20 : decode cX14_width 20 = .ok (.putfield 833, 3) := by decide +kernel
theorem dX14_width_23 : decode cX14_width 23 = .ok (.iconst 1, 1) := by decide +kernel
theorem dX14_width_24 : decode cX14_width 24 = .ok (.ireturn, 1) := by decide +kernel
theorem dX14_feed_0 : decode cX14_feed 0 = .ok (.aload_n 0, 1) := by decide +kernel
theorem dX14_feed_1 : decode cX14_feed 1 = .ok (.iconst 0, 1) := by decide +kernel
theorem dX14_feed_2 : decode cX14_feed 2 = .ok (.putfield 806, 3) := by decide +kernel
theorem dX14_feed_5 : decode cX14_feed 5 = .ok (.iconst 0, 1) := by decide +kernel
theorem dX14_feed_6 : decode cX14_feed 6 = .ok (.istore 6, 2) := by decide +kernel
theorem dX14_feed_8 : decode cX14_feed 8 = .ok (.iload 6, 2) := by decide +kernel
theorem dX14_feed_10 : decode cX14_feed 10 = .ok (.iconst 4, 1) := by decide +kernel
theorem dX14_feed_11 : decode cX14_feed 11 = .ok (.if_icmp .ge 112, 3) := by decide +kernel
theorem dX14_feed_123 : decode cX14_feed 123 = .ok (.return_, 1) := by decide +kernel
theorem dX14_feed_14 : decode cX14_feed 14 = .ok (.aload_n 0, 1) := by decide +kernel
theorem dX14_feed_15 : decode cX14_feed 15 = .ok (.getfield 7, 3) := by decide +kernel
theorem dX14_feed_18 : decode cX14_feed 18 = .ok (.iload 6, 2) := by decide +kernel
theorem dX14_feed_20 : decode cX14_feed 20 = .ok (.iload_n 1, 1) := by decide +kernel
theorem dX14_feed_21 : decode cX14_feed 21 = .ok (.bipush 24, 2) := by decide +kernel
theorem dX14_feed_23 : decode cX14_feed 23 = .ok (.bipush 8, 2) := by decide +kernel
theorem dX14_feed_25 : decode cX14_feed 25 = .ok (.iload 6, 2) := by decide +kernel
theorem dX14_feed_27 : decode cX14_feed 27 = .ok (.imul, 1) := by decide +kernel
theorem dX14_feed_28 : decode cX14_feed 28 = .ok (.isub, 1) := by decide +kernel
theorem dX14_feed_29 : decode cX14_feed 29 = .ok (.ishr, 1) := by decide +kernel
theorem dX14_feed_30 : decode cX14_feed 30 = .ok (.i2b, 1) := by decide +kernel
theorem dX14_feed_31 : decode cX14_feed 31 = .ok (.bastore, 1) := by decide +kernel
theorem dX14_feed_32 : decode cX14_feed 32 = .ok (.aload_n 0, 1) := by decide +kernel
theorem dX14_feed_33 : decode cX14_feed 33 = .ok (.getfield 7, 3) := by decide +kernel
theorem dX14_feed_36 : decode cX14_feed 36 = .ok (.iconst 4, 1) := by decide +kernel
theorem dX14_feed_37 : decode cX14_feed 37 = .ok (.iload 6, 2) := by decide +kernel
theorem dX14_feed_39 : decode cX14_feed 39 = .ok (.iadd, 1) := by decide +kernel
theorem dX14_feed_40 : decode cX14_feed 40 = .ok (.iload_n 2, 1) := by decide +kernel
theorem dX14_feed_41 : decode cX14_feed 41 = .ok (.bipush 24, 2) := by decide +kernel
theorem dX14_feed_43 : decode cX14_feed 43 = .ok (.bipush 8, 2) := by decide +kernel
theorem dX14_feed_45 : decode cX14_feed 45 = .ok (.iload 6, 2) := by decide +kernel
theorem dX14_feed_47 : decode cX14_feed 47 = .ok (.imul, 1) := by decide +kernel
theorem dX14_feed_48 : decode cX14_feed 48 = .ok (.isub, 1) := by decide +kernel
theorem dX14_feed_49 : decode cX14_feed 49 = .ok (.ishr, 1) := by decide +kernel
theorem dX14_feed_50 : decode cX14_feed 50 = .ok (.i2b, 1) := by decide +kernel
theorem dX14_feed_51 : decode cX14_feed 51 = .ok (.bastore, 1) := by decide +kernel
theorem dX14_feed_52 : decode cX14_feed 52 = .ok (.aload_n 0, 1) := by decide +kernel
theorem dX14_feed_53 : decode cX14_feed 53 = .ok (.getfield 7, 3) := by decide +kernel
theorem dX14_feed_56 : decode cX14_feed 56 = .ok (.bipush 8, 2) := by decide +kernel
theorem dX14_feed_58 : decode cX14_feed 58 = .ok (.iload 6, 2) := by decide +kernel
theorem dX14_feed_60 : decode cX14_feed 60 = .ok (.iadd, 1) := by decide +kernel
theorem dX14_feed_61 : decode cX14_feed 61 = .ok (.iload_n 3, 1) := by decide +kernel
theorem dX14_feed_62 : decode cX14_feed 62 = .ok (.bipush 24, 2) := by decide +kernel
theorem dX14_feed_64 : decode cX14_feed 64 = .ok (.bipush 8, 2) := by decide +kernel
theorem dX14_feed_66 : decode cX14_feed 66 = .ok (.iload 6, 2) := by decide +kernel
theorem dX14_feed_68 : decode cX14_feed 68 = .ok (.imul, 1) := by decide +kernel
theorem dX14_feed_69 : decode cX14_feed 69 = .ok (.isub, 1) := by decide +kernel
theorem dX14_feed_70 : decode cX14_feed 70 = .ok (.ishr, 1) := by decide +kernel
theorem dX14_feed_71 : decode cX14_feed 71 = .ok (.i2b, 1) := by decide +kernel
theorem dX14_feed_72 : decode cX14_feed 72 = .ok (.bastore, 1) := by decide +kernel
theorem dX14_feed_73 : decode cX14_feed 73 = .ok (.aload_n 0, 1) := by decide +kernel
theorem dX14_feed_74 : decode cX14_feed 74 = .ok (.getfield 7, 3) := by decide +kernel
theorem dX14_feed_77 : decode cX14_feed 77 = .ok (.bipush 12, 2) := by decide +kernel
theorem dX14_feed_79 : decode cX14_feed 79 = .ok (.iload 6, 2) := by decide +kernel
theorem dX14_feed_81 : decode cX14_feed 81 = .ok (.iadd, 1) := by decide +kernel
theorem dX14_feed_82 : decode cX14_feed 82 = .ok (.iload 4, 2) := by decide +kernel
theorem dX14_feed_84 : decode cX14_feed 84 = .ok (.bipush 24, 2) := by decide +kernel
theorem dX14_feed_86 : decode cX14_feed 86 = .ok (.bipush 8, 2) := by decide +kernel
theorem dX14_feed_88 : decode cX14_feed 88 = .ok (.iload 6, 2) := by decide +kernel
theorem dX14_feed_90 : decode cX14_feed 90 = .ok (.imul, 1) := by decide +kernel
theorem dX14_feed_91 : decode cX14_feed 91 = .ok (.isub, 1) := by decide +kernel
theorem dX14_feed_92 : decode cX14_feed 92 = .ok (.ishr, 1) := by decide +kernel
theorem dX14_feed_93 : decode cX14_feed 93 = .ok (.i2b, 1) := by decide +kernel
theorem dX14_feed_94 : decode cX14_feed 94 = .ok (.bastore, 1) := by decide +kernel
theorem dX14_feed_95 : decode cX14_feed 95 = .ok (.aload_n 0, 1) := by decide +kernel
theorem dX14_feed_96 : decode cX14_feed 96 = .ok (.getfield 7, 3) := by decide +kernel
theorem dX14_feed_99 : decode cX14_feed 99 = .ok (.bipush 16, 2) := by decide +kernel
theorem dX14_feed_101 : decode cX14_feed 101 = .ok (.iload 6, 2) := by decide +kernel
theorem dX14_feed_103 : decode cX14_feed 103 = .ok (.iadd, 1) := by decide +kernel
theorem dX14_feed_104 : decode cX14_feed 104 = .ok (.iload 5, 2) := by decide +kernel
theorem dX14_feed_106 : decode cX14_feed 106 = .ok (.bipush 24, 2) := by decide +kernel
theorem dX14_feed_108 : decode cX14_feed 108 = .ok (.bipush 8, 2) := by decide +kernel
theorem dX14_feed_110 : decode cX14_feed 110 = .ok (.iload 6, 2) := by decide +kernel
theorem dX14_feed_112 : decode cX14_feed 112 = .ok (.imul, 1) := by decide +kernel
theorem dX14_feed_113 : decode cX14_feed 113 = .ok (.isub, 1) := by decide +kernel
theorem dX14_feed_114 : decode cX14_feed 114 = .ok (.ishr, 1) := by decide +kernel
theorem dX14_feed_115 : decode cX14_feed 115 = .ok (.i2b, 1) := by decide +kernel
theorem dX14_feed_116 : decode cX14_feed 116 = .ok (.bastore, 1) := by decide +kernel
theorem dX14_feed_117 : decode cX14_feed 117 = .ok (.iinc 6 1, 3) := by decide +kernel
theorem dX14_feed_120 : decode cX14_feed 120 = .ok (.goto (-112), 3) := by decide +kernel
theorem dX14_end_0 : decode cX14_end 0 = .ok (.aload_n 0, 1) := by decide +kernel
theorem dX14_end_1 : decode cX14_end 1 = .ok (.iconst 0, 1) := by decide +kernel
theorem dX14_end_2 : decode cX14_end 2 = .ok (.putfield 806, 3) := by decide +kernel
theorem dX14_end_5 : decode cX14_end 5 = .ok (.iload_n 1, 1) := by decide +kernel
theorem dX14_end_6 : decode cX14_end 6 = .ok (.ifCond .lt 21, 3) := by decide +kernel
theorem dX14_end_27 : decode cX14_end 27 = .ok (.iconst (-1), 1) := by decide +kernel
theorem dX14_end_28 : decode cX14_end 28 = .ok (.ireturn, 1) := by decide +kernel
theorem dX14_end_9 : decode cX14_end 9 = .ok (.iload_n 1, 1) := by decide +kernel
theorem dX14_end_10 : decode cX14_end 10 = .ok (.bipush 20, 2) := by decide +kernel
theorem dX14_end_12 : decode cX14_end 12 = .ok (.if_icmp .gt 15, 3) := by decide +kernel
theorem dX14_end_15 : decode cX14_end 15 = .ok (.aload_n 0, 1) := by decide +kernel
theorem dX14_end_16 : decode cX14_end 16 = .ok (.getfield 788, 3) := by decide +kernel
theorem dX14_end_19 : decode cX14_end 19 = .ok (.iload_n 1, 1) := by decide +kernel
theorem dX14_end_20 : decode cX14_end 20 = .ok (.iadd, 1) := by decide +kernel
theorem dX14_end_21 : decode cX14_end 21 = .ok (.sipush 4000, 3) := by decide +kernel
theorem dX14_end_24 : decode cX14_end 24 = .ok (.if_icmp .le 5, 3) := by decide +kernel
theorem dX14_end_29 : decode cX14_end 29 = .ok (.iconst 0, 1) := by decide +kernel
theorem dX14_end_30 : decode cX14_end 30 = .ok (.istore_n 2, 1) := by decide +kernel
theorem dX14_end_31 : decode cX14_end 31 = .ok (.iload_n 2, 1) := by decide +kernel
theorem dX14_end_32 : decode cX14_end 32 = .ok (.iload_n 1, 1) := by decide +kernel
theorem dX14_end_33 : decode cX14_end 33 = .ok (.if_icmp .ge 26, 3) := by decide +kernel
theorem dX14_end_59 : decode cX14_end 59 = .ok (.iconst 0, 1) := by decide +kernel
theorem dX14_end_60 : decode cX14_end 60 = .ok (.istore_n 2, 1) := by decide +kernel
theorem dX14_end_61 : decode cX14_end 61 = .ok (.iload_n 2, 1) := by decide +kernel
theorem dX14_end_62 : decode cX14_end 62 = .ok (.bipush 20, 2) := by decide +kernel
theorem dX14_end_64 : decode cX14_end 64 = .ok (.if_icmp .ge 16, 3) := by decide +kernel
theorem dX14_end_80 : decode cX14_end 80 = .ok (.aload_n 0, 1) := by decide +kernel
theorem dX14_end_81 : decode cX14_end 81 = .ok (.dup, 1) := by decide +kernel
theorem dX14_end_82 : decode cX14_end 82 = .ok (.getfield 788, 3) := by decide +kernel
theorem dX14_end_85 : decode cX14_end 85 = .ok (.iload_n 1, 1) := by decide +kernel
theorem dX14_end_86 : decode cX14_end 86 = .ok (.iadd, 1) := by decide +kernel
theorem dX14_end_87 : decode cX14_end 87 = .ok (.putfield 788, 3) := by decide +kernel
theorem dX14_end_90 : decode cX14_end 90 = .ok (.aload_n 0, 1) := by decide +kernel
theorem dX14_end_91 : decode cX14_end 91 = .ok (.getfield 788, 3) := by decide +kernel
theorem dX14_end_94 : decode cX14_end 94 = .ok (.ireturn, 1) := by decide +kernel
theorem dX14_end_67 : decode cX14_end 67 = .ok (.aload_n 0, 1) := by decide +kernel
theorem dX14_end_68 : decode cX14_end 68 = .ok (.getfield 7, 3) := by decide +kernel
theorem dX14_end_71 : decode cX14_end 71 = .ok (.iload_n 2, 1) := by decide +kernel
theorem dX14_end_72 : decode cX14_end 72 = .ok (.iconst 0, 1) := by decide +kernel
theorem dX14_end_73 : decode cX14_end 73 = .ok (.bastore, 1) := by decide +kernel
theorem dX14_end_74 : decode cX14_end 74 = .ok (.iinc 2 1, 3) := by decide +kernel
theorem dX14_end_77 : decode cX14_end 77 = .ok (.goto (-16), 3) := by decide +kernel
theorem dX14_end_36 : decode cX14_end 36 = .ok (.aload_n 0, 1) := by decide +kernel
theorem dX14_end_37 : decode cX14_end 37 = .ok (.getfield 13, 3) := by decide +kernel
theorem dX14_end_40 : decode cX14_end 40 = .ok (.aload_n 0, 1) := by decide +kernel
theorem dX14_end_41 : decode cX14_end 41 = .ok (.getfield 788, 3) := by decide +kernel
theorem dX14_end_44 : decode cX14_end 44 = .ok (.iload_n 2, 1) := by decide +kernel
theorem dX14_end_45 : decode cX14_end 45 = .ok (.iadd, 1) := by decide +kernel
theorem dX14_end_46 : decode cX14_end 46 = .ok (.aload_n 0, 1) := by decide +kernel
theorem dX14_end_47 : decode cX14_end 47 = .ok (.getfield 7, 3) := by decide +kernel
theorem dX14_end_50 : decode cX14_end 50 = .ok (.iload_n 2, 1) := by decide +kernel
theorem dX14_end_51 : decode cX14_end 51 = .ok (.baload, 1) := by decide +kernel
theorem dX14_end_52 : decode cX14_end 52 = .ok (.bastore, 1) := by decide +kernel
theorem dX14_end_53 : decode cX14_end 53 = .ok (.iinc 2 1, 3) := by decide +kernel
theorem dX14_end_56 : decode cX14_end 56 = .ok (.goto (-25), 3) := by decide +kernel
theorem dX14_fault_0 : decode cX14_fault 0 = .ok (.aload_n 0, 1) := by decide +kernel
theorem dX14_fault_1 : decode cX14_fault 1 = .ok (.iconst 0, 1) := by decide +kernel
theorem dX14_fault_2 : decode cX14_fault 2 = .ok (.putfield 806, 3) := by decide +kernel
theorem dX14_fault_5 : decode cX14_fault 5 = .ok (.iload_n 1, 1) := by decide +kernel
theorem dX14_fault_6 : decode cX14_fault 6 = .ok (.ifCond .ne 10, 3) := by decide +kernel
theorem dX14_fault_16 : decode cX14_fault 16 = .ok (.aload_n 0, 1) := by decide +kernel
theorem dX14_fault_17 : decode cX14_fault 17 = .ok (.getfield 248, 3) := by decide +kernel
theorem dX14_fault_20 : decode cX14_fault 20 = .ok (.ifCond .eq 12, 3) := by decide +kernel
theorem dX14_fault_32 : decode cX14_fault 32 = .ok (.iconst (-1), 1) := by decide +kernel
theorem dX14_fault_33 : decode cX14_fault 33 = .ok (.goto 19, 3) := by decide +kernel
theorem dX14_fault_52 : decode cX14_fault 52 = .ok (.ireturn, 1) := by decide +kernel
theorem dX14_fault_23 : decode cX14_fault 23 = .ok (.iload_n 1, 1) := by decide +kernel
theorem dX14_fault_24 : decode cX14_fault 24 = .ok (.ifCond .lt 8, 3) := by decide +kernel
theorem dX14_fault_27 : decode cX14_fault 27 = .ok (.iload_n 1, 1) := by decide +kernel
theorem dX14_fault_28 : decode cX14_fault 28 = .ok (.iconst 2, 1) := by decide +kernel
theorem dX14_fault_29 : decode cX14_fault 29 = .ok (.if_icmp .le 7, 3) := by decide +kernel
theorem dX14_fault_36 : decode cX14_fault 36 = .ok (.iload_n 1, 1) := by decide +kernel
theorem dX14_fault_37 : decode cX14_fault 37 = .ok (.iconst 1, 1) := by decide +kernel
theorem dX14_fault_38 : decode cX14_fault 38 = .ok (.if_icmp .ne 10, 3) := by decide +kernel
theorem dX14_fault_48 : decode cX14_fault 48 = .ok (.aload_n 0, 1) := by decide +kernel
theorem dX14_fault_49 : decode cX14_fault 49 = .ok (.getfield 257, 3) := by decide +kernel
theorem dX14_fault_41 : decode cX14_fault 41 = .ok (.aload_n 0, 1) := by decide +kernel
theorem dX14_fault_42 : decode cX14_fault 42 = .ok (.getfield 254, 3) := by decide +kernel
theorem dX14_fault_45 : decode cX14_fault 45 = .ok (.goto 7, 3) := by decide +kernel
theorem dX14_fault_9 : decode cX14_fault 9 = .ok (.aload_n 0, 1) := by decide +kernel
theorem dX14_fault_10 : decode cX14_fault 10 = .ok (.getfield 248, 3) := by decide +kernel
theorem dX14_fault_13 : decode cX14_fault 13 = .ok (.goto 39, 3) := by decide +kernel
theorem dX14_stop_0 : decode cX14_stop 0 = .ok (.aload_n 0, 1) := by decide +kernel
theorem dX14_stop_1 : decode cX14_stop 1 = .ok (.iconst 0, 1) := by decide +kernel
theorem dX14_stop_2 : decode cX14_stop 2 = .ok (.putfield 806, 3) := by decide +kernel
theorem dX14_stop_5 : decode cX14_stop 5 = .ok (.aload_n 0, 1) := by decide +kernel
theorem dX14_stop_6 : decode cX14_stop 6 = .ok (.invokevirtual 803, 3) := by decide +kernel
theorem dX14_stop_9 : decode cX14_stop 9 = .ok (.ifCond .ne 5, 3) := by decide +kernel
theorem dX14_stop_14 : decode cX14_stop 14 = .ok (.aload_n 0, 1) := by decide +kernel
theorem dX14_stop_15 : decode cX14_stop 15 = .ok (.iconst 4, 1) := by decide +kernel
theorem dX14_stop_16 : decode cX14_stop 16 = .ok (.putfield 794, 3) := by decide +kernel
theorem dX14_stop_19 : decode cX14_stop 19 = .ok (.iconst 1, 1) := by decide +kernel
theorem dX14_stop_20 : decode cX14_stop 20 = .ok (.ireturn, 1) := by decide +kernel
theorem dX14_stop_12 : decode cX14_stop 12 = .ok (.iconst 0, 1) := by decide +kernel
theorem dX14_stop_13 : decode cX14_stop 13 = .ok (.ireturn, 1) := by decide +kernel
theorem dX14_byteOf_0 : decode cX14_byteOf 0 = .ok (.aload_n 0, 1) := by decide +kernel
theorem dX14_byteOf_1 : decode cX14_byteOf 1 = .ok (.iconst 0, 1) := by decide +kernel
theorem dX14_byteOf_2 : decode cX14_byteOf 2 = .ok (.putfield 806, 3) := by decide +kernel
theorem dX14_byteOf_5 : decode cX14_byteOf 5 = .ok (.iload_n 1, 1) := by decide +kernel
theorem dX14_byteOf_6 : decode cX14_byteOf 6 = .ok (.ifCond .lt 24, 3) := by decide +kernel
theorem dX14_byteOf_30 : decode cX14_byteOf 30 = .ok (.iconst (-1), 1) := by decide +kernel
theorem dX14_byteOf_31 : decode cX14_byteOf 31 = .ok (.ireturn, 1) := by decide +kernel
theorem dX14_byteOf_9 : decode cX14_byteOf 9 = .ok (.iload_n 1, 1) := by decide +kernel
theorem dX14_byteOf_10 : decode cX14_byteOf 10 = .ok (.aload_n 0, 1) := by decide +kernel
theorem dX14_byteOf_11 : decode cX14_byteOf 11 = .ok (.getfield 980, 3) := by decide +kernel
theorem dX14_byteOf_14 : decode cX14_byteOf 14 = .ok (.if_icmp .ge 16, 3) := by decide +kernel
theorem dX14_byteOf_17 : decode cX14_byteOf 17 = .ok (.aload_n 0, 1) := by decide +kernel
theorem dX14_byteOf_18 : decode cX14_byteOf 18 = .ok (.getfield 120, 3) := by decide +kernel
theorem dX14_byteOf_21 : decode cX14_byteOf 21 = .ok (.iload_n 1, 1) := by decide +kernel
theorem dX14_byteOf_22 : decode cX14_byteOf 22 = .ok (.baload, 1) := by decide +kernel
theorem dX14_byteOf_23 : decode cX14_byteOf 23 = .ok (.sipush 255, 3) := by decide +kernel
theorem dX14_byteOf_26 : decode cX14_byteOf 26 = .ok (.iand, 1) := by decide +kernel
theorem dX14_byteOf_27 : decode cX14_byteOf 27 = .ok (.goto 4, 3) := by decide +kernel
theorem dX14_error_0 : decode cX14_error 0 = .ok (.aload_n 0, 1) := by decide +kernel
theorem dX14_error_1 : decode cX14_error 1 = .ok (.iconst 0, 1) := by decide +kernel
theorem dX14_error_2 : decode cX14_error 2 = .ok (.putfield 806, 3) := by decide +kernel
theorem dX14_error_5 : decode cX14_error 5 = .ok (.iload_n 1, 1) := by decide +kernel
theorem dX14_error_6 : decode cX14_error 6 = .ok (.ifCond .lt 27, 3) := by decide +kernel
theorem dX14_error_33 : decode cX14_error 33 = .ok (.iconst (-1), 1) := by decide +kernel
theorem dX14_error_34 : decode cX14_error 34 = .ok (.ireturn, 1) := by decide +kernel
theorem dX14_error_9 : decode cX14_error 9 = .ok (.iload_n 1, 1) := by decide +kernel
theorem dX14_error_10 : decode cX14_error 10 = .ok (.aload_n 0, 1) := by decide +kernel
theorem dX14_error_11 : decode cX14_error 11 = .ok (.getfield 857, 3) := by decide +kernel
theorem dX14_error_14 : decode cX14_error 14 = .ok (.if_icmp .ge 19, 3) := by decide +kernel
theorem dX14_error_17 : decode cX14_error 17 = .ok (.iload_n 1, 1) := by decide +kernel
theorem dX14_error_18 : decode cX14_error 18 = .ok (.sipush 400, 3) := by decide +kernel
theorem dX14_error_21 : decode cX14_error 21 = .ok (.if_icmp .ge 12, 3) := by decide +kernel
theorem dX14_error_24 : decode cX14_error 24 = .ok (.iload_n 2, 1) := by decide +kernel
theorem dX14_error_25 : decode cX14_error 25 = .ok (.ifCond .lt 8, 3) := by decide +kernel
theorem dX14_error_28 : decode cX14_error 28 = .ok (.iload_n 2, 1) := by decide +kernel
theorem dX14_error_29 : decode cX14_error 29 = .ok (.iconst 2, 1) := by decide +kernel
theorem dX14_error_30 : decode cX14_error 30 = .ok (.if_icmp .le 5, 3) := by decide +kernel
theorem dX14_error_35 : decode cX14_error 35 = .ok (.iload_n 2, 1) := by decide +kernel
theorem dX14_error_36 : decode cX14_error 36 = .ok (.ifCond .ne 12, 3) := by decide +kernel
theorem dX14_error_48 : decode cX14_error 48 = .ok (.iload_n 2, 1) := by decide +kernel
theorem dX14_error_49 : decode cX14_error 49 = .ok (.iconst 1, 1) := by decide +kernel
theorem dX14_error_50 : decode cX14_error 50 = .ok (.if_icmp .ne 12, 3) := by decide +kernel
theorem dX14_error_62 : decode cX14_error 62 = .ok (.aload_n 0, 1) := by decide +kernel
theorem dX14_error_63 : decode cX14_error 63 = .ok (.getfield 129, 3) := by decide +kernel
theorem dX14_error_66 : decode cX14_error 66 = .ok (.iload_n 1, 1) := by decide +kernel
theorem dX14_error_67 : decode cX14_error 67 = .ok (.iaload, 1) := by decide +kernel
theorem dX14_error_68 : decode cX14_error 68 = .ok (.ireturn, 1) := by decide +kernel
theorem dX14_error_53 : decode cX14_error 53 = .ok (.aload_n 0, 1) := by decide +kernel
theorem dX14_error_54 : decode cX14_error 54 = .ok (.getfield 126, 3) := by decide +kernel
theorem dX14_error_57 : decode cX14_error 57 = .ok (.iload_n 1, 1) := by decide +kernel
theorem dX14_error_58 : decode cX14_error 58 = .ok (.iaload, 1) := by decide +kernel
theorem dX14_error_59 : decode cX14_error 59 = .ok (.goto 9, 3) := by decide +kernel
theorem dX14_error_39 : decode cX14_error 39 = .ok (.aload_n 0, 1) := by decide +kernel
theorem dX14_error_40 : decode cX14_error 40 = .ok (.getfield 123, 3) := by decide +kernel
theorem dX14_error_43 : decode cX14_error 43 = .ok (.iload_n 1, 1) := by decide +kernel
theorem dX14_error_44 : decode cX14_error 44 = .ok (.iaload, 1) := by decide +kernel
theorem dX14_error_45 : decode cX14_error 45 = .ok (.goto 23, 3) := by decide +kernel
theorem dX14_looked_0 : decode cX14_looked 0 = .ok (.aload_n 0, 1) := by decide +kernel
theorem dX14_looked_1 : decode cX14_looked 1 = .ok (.iconst 0, 1) := by decide +kernel
theorem dX14_looked_2 : decode cX14_looked 2 = .ok (.putfield 806, 3) := by decide +kernel
theorem dX14_looked_5 : decode cX14_looked 5 = .ok (.iload_n 1, 1) := by decide +kernel
theorem dX14_looked_6 : decode cX14_looked 6 = .ok (.ifCond .lt 27, 3) := by decide +kernel
theorem dX14_looked_33 : decode cX14_looked 33 = .ok (.bipush (-2), 2) := by decide +kernel
theorem dX14_looked_35 : decode cX14_looked 35 = .ok (.ireturn, 1) := by decide +kernel
theorem dX14_looked_9 : decode cX14_looked 9 = .ok (.iload_n 1, 1) := by decide +kernel
theorem dX14_looked_10 : decode cX14_looked 10 = .ok (.aload_n 0, 1) := by decide +kernel
theorem dX14_looked_11 : decode cX14_looked 11 = .ok (.getfield 869, 3) := by decide +kernel
theorem dX14_looked_14 : decode cX14_looked 14 = .ok (.if_icmp .ge 19, 3) := by decide +kernel
theorem dX14_looked_17 : decode cX14_looked 17 = .ok (.iload_n 1, 1) := by decide +kernel
theorem dX14_looked_18 : decode cX14_looked 18 = .ok (.sipush 1000, 3) := by decide +kernel
theorem dX14_looked_21 : decode cX14_looked 21 = .ok (.if_icmp .ge 12, 3) := by decide +kernel
theorem dX14_looked_24 : decode cX14_looked 24 = .ok (.iload_n 2, 1) := by decide +kernel
theorem dX14_looked_25 : decode cX14_looked 25 = .ok (.ifCond .lt 8, 3) := by decide +kernel
theorem dX14_looked_28 : decode cX14_looked 28 = .ok (.iload_n 2, 1) := by decide +kernel
theorem dX14_looked_29 : decode cX14_looked 29 = .ok (.iconst 1, 1) := by decide +kernel
theorem dX14_looked_30 : decode cX14_looked 30 = .ok (.if_icmp .le 6, 3) := by decide +kernel
theorem dX14_looked_36 : decode cX14_looked 36 = .ok (.iload_n 2, 1) := by decide +kernel
theorem dX14_looked_37 : decode cX14_looked 37 = .ok (.ifCond .ne 12, 3) := by decide +kernel
theorem dX14_looked_49 : decode cX14_looked 49 = .ok (.aload_n 0, 1) := by decide +kernel
theorem dX14_looked_50 : decode cX14_looked 50 = .ok (.getfield 135, 3) := by decide +kernel
theorem dX14_looked_53 : decode cX14_looked 53 = .ok (.iload_n 1, 1) := by decide +kernel
theorem dX14_looked_54 : decode cX14_looked 54 = .ok (.iaload, 1) := by decide +kernel
theorem dX14_looked_55 : decode cX14_looked 55 = .ok (.ireturn, 1) := by decide +kernel
theorem dX14_looked_40 : decode cX14_looked 40 = .ok (.aload_n 0, 1) := by decide +kernel
theorem dX14_looked_41 : decode cX14_looked 41 = .ok (.getfield 132, 3) := by decide +kernel
theorem dX14_looked_44 : decode cX14_looked 44 = .ok (.iload_n 1, 1) := by decide +kernel
theorem dX14_looked_45 : decode cX14_looked 45 = .ok (.iaload, 1) := by decide +kernel
theorem dX14_looked_46 : decode cX14_looked 46 = .ok (.goto 9, 3) := by decide +kernel
def pre_X14_take (σ : rS)  : Prop := 0 ≤ (rF σ 0 3) ∧ (rF σ 0 3) ≤ 4000
def post_X14_take (σ : rS)  (σ' : rS) : Prop := (rF σ' 0 66) = (rF σ 0 3) ∧ (rF σ' 0 3) = 0
def VC_X14_take (σ : rS) (Q : rS → Prop) : Prop := (rng (rF σ 0 3) → Q (sF (sF σ 0 66 (rF σ 0 3)) 0 3 0))
set_option maxHeartbeats 400000 in
theorem vX14_take (σ : rS) (hwf : rWF σ) (hp : pre_X14_take σ ) : VC_X14_take σ (post_X14_take σ ) := by
  simp only [VC_X14_take, pre_X14_take, post_X14_take, rng, rfk, rNMp, rF_sF, rF_sA, rF_sL, rF_sR, rA_sA, rA_sF, rA_sL, rA_sR, rR_sF, rR_sA, rR_sL, rR_sR, reduceIte, and_true, true_and, and_false, false_and, and_self] at *
  (repeat' (first | with_reducible intro _ | with_reducible apply And.intro))
  all_goals (first | assumption | omega | grind (splits := 20) [rNM_sF0])
theorem wX14_take (l : Launch) (G : zG) (κ : Nat → Nat) (σ : rS) (hwf : rWF σ) (Q : rS → Prop) (h : VC_X14_take σ Q) : rMv l G κ yX14_take cX14_take 1 1 0 [.ref (κ 0)] σ (fun s => rKeep 0x40000000000000008 0 0 0 0 σ s ∧ Q s) := by
  refine zMv.intro (by decide +kernel) (Nat.le_of_ble_eq_true rfl) (fun X hC hR => ?_)
  refine z_aload_n hC (pc := 0) 0 dX14_take_0 rfl rfl ?_
  refine z_aload_n hC (pc := 1) 0 dX14_take_1 rfl rfl ?_
  refine y_get hC (pc := 2) zf14 rOb_0 3 (v := iv (rF σ 0 3)) dX14_take_2 zw2471 (rv_i (Or.inl rfl) rfl) (kk := ?_)
  have h := h (hwf.f _ _)
  refine y_putI hC (pc := 5) zf14 rOb_0 66 (x := (rF σ 0 3)) dX14_take_5 zw2533 (Or.inl rfl) rfl rfl (kk := ?_)
  have W10 := hwf.sF (q := 0) (f := 66) (x := (rF σ 0 3)) (hwf.f _ _)
  refine z_aload_n hC (pc := 8) 0 dX14_take_8 rfl rfl ?_
  refine z_iconst hC (pc := 9) (v := Int32.ofInt 0) dX14_take_9 (by decide) ?_
  refine y_putI hC (pc := 10) zf14 rOb_0 3 (x := 0) dX14_take_10 zw2471 (Or.inl rfl) rfl rfl (kk := ?_)
  have W11 := W10.sF (q := 0) (f := 3) (x := 0) (r_lit rfl)
  exact y_retv hR dX14_take_13 W11 (Nat.le_of_ble_eq_true rfl) (Nat.le_of_ble_eq_true rfl) ⟨(rKeep.tr (rKeep.tr rKeep.rf (rKeep.sF0 (f := 66)) rfl rfl rfl rfl rfl) (rKeep.sF0 (f := 3)) rfl rfl rfl rfl rfl), h⟩
theorem kX14_take (l : Launch) (G : zG) (κ : Nat → Nat) (σ : rS) (hwf : rWF σ) (hp : pre_X14_take σ ) : rMv l G κ yX14_take cX14_take 1 1 0 [.ref (κ 0)] σ (fun s => rKeep 0x40000000000000008 0 0 0 0 σ s ∧ post_X14_take σ s) := wX14_take l G κ σ hwf (post_X14_take σ ) (vX14_take σ hwf hp) 
def pre_X14_isMade (σ : rS)  : Prop := True
def post_X14_isMade (σ : rS)  (r : Int) : Prop := r = 0 ∨ r = 1
def VC_X14_isMade (σ : rS) (Q : Int → Prop) : Prop := (rng (rF σ 0 68) → ((¬ (rF σ 0 68) = 1 → Q 0) ∧ ((rF σ 0 68) = 1 → Q 1)))
set_option maxHeartbeats 400000 in
theorem vX14_isMade (σ : rS) (hwf : rWF σ) (hp : pre_X14_isMade σ ) : VC_X14_isMade σ (post_X14_isMade σ ) := by
  simp only [VC_X14_isMade, pre_X14_isMade, post_X14_isMade, rng, rfk, rNMp, rF_sF, rF_sA, rF_sL, rF_sR, rA_sA, rA_sF, rA_sL, rA_sR, rR_sF, rR_sA, rR_sL, rR_sR, reduceIte, and_true, true_and, and_false, false_and, and_self] at *
  (repeat' (first | with_reducible intro _ | with_reducible apply And.intro))
  all_goals (first | assumption | omega | grind (splits := 20) [rNM_sF0])
theorem wX14_isMade (l : Launch) (G : zG) (κ : Nat → Nat) (σ : rS) (hwf : rWF σ) (Q : Int → Prop) (h : VC_X14_isMade σ Q) : rMi l G κ yX14_isMade cX14_isMade 1 .boolean 1 0 [.ref (κ 0)] σ (fun x s => s = σ ∧ Q x) := by
  refine zMi.intro (by decide +kernel) (Nat.le_of_ble_eq_true rfl) (fun X hC hR => ?_)
  refine z_aload_n hC (pc := 0) 0 dX14_isMade_0 rfl rfl ?_
  refine y_get hC (pc := 1) zf14 rOb_0 68 (v := iv (rF σ 0 68)) dX14_isMade_1 zw2535 (rv_i (Or.inl rfl) rfl) (kk := ?_)
  have h := h (hwf.f _ _)
  refine z_iconst hC (pc := 4) (v := Int32.ofInt 1) dX14_isMade_4 (by decide) ?_
  obtain ⟨hT, hF⟩ := h
  refine y_icmp_ne hC (pc := 5) 12 (hwf.f _ _) (r_lit rfl) dX14_isMade_5 (by decide) (fun c => ?_) (fun c => ?_)
  · have h := hT c
    refine z_iconst hC (pc := 12) (v := Int32.ofInt 0) dX14_isMade_12 (by decide) ?_
    exact y_reti hR dX14_isMade_13 rfl (r_lit rfl) hwf (Nat.le_of_ble_eq_true rfl) (Nat.le_of_ble_eq_true rfl) ⟨rfl, h⟩
  · have h := hF c
    refine z_iconst hC (pc := 8) (v := Int32.ofInt 1) dX14_isMade_8 (by decide) ?_
    refine z_goto hC (pc := 9) 13 dX14_isMade_9 (by decide) ?_
    exact y_reti hR dX14_isMade_13 rfl (r_lit rfl) hwf (Nat.le_of_ble_eq_true rfl) (Nat.le_of_ble_eq_true rfl) ⟨rfl, h⟩
theorem kX14_isMade (l : Launch) (G : zG) (κ : Nat → Nat) (σ : rS) (hwf : rWF σ) (hp : pre_X14_isMade σ ) : rMi l G κ yX14_isMade cX14_isMade 1 .boolean 1 0 [.ref (κ 0)] σ (fun x s => s = σ ∧ post_X14_isMade σ x) := wX14_isMade l G κ σ hwf (post_X14_isMade σ ) (vX14_isMade σ hwf hp) 
def pre_X14_newValue (σ : rS) (x1 : Int) (x2 : Int) : Prop := 0 ≤ (rF σ 0 43) ∧ (rF σ 0 43) ≤ 500 ∧ 0 ≤ (rF σ 0 45) ∧ (rF σ 0 45) ≤ 16000 ∧ 0 ≤ (rF σ 0 44) ∧ (rF σ 0 44) ≤ 4000 ∧ 0 ≤ (rF σ 0 60) ∧ (rF σ 0 60) ≤ 40 ∧ 0 ≤ (rF σ 0 3) ∧ (rF σ 0 3) ≤ 4000 ∧ VMp σ ∧ KYp σ ∧ PPp σ ∧ WFp σ ∧ 0 ≤ x2 ∧ x2 ≤ 4000 ∧ 0 ≤ x1 ∧ x1 ≤ 5
def post_X14_newValue (σ : rS) (x1 : Int) (x2 : Int) (r : Int) (σ' : rS) : Prop := 0 ≤ (rF σ' 0 43) ∧ (rF σ' 0 43) ≤ 500 ∧ 0 ≤ (rF σ' 0 45) ∧ (rF σ' 0 45) ≤ 16000 ∧ 0 ≤ (rF σ' 0 44) ∧ (rF σ' 0 44) ≤ 4000 ∧ 0 ≤ (rF σ' 0 60) ∧ (rF σ' 0 60) ≤ 40 ∧ 0 ≤ (rF σ' 0 3) ∧ (rF σ' 0 3) ≤ 4000 ∧ VMp σ' ∧ KYp σ' ∧ PPp σ' ∧ WFp σ' ∧ (r = -1 ∨ (0 ≤ r ∧ r < 500))
def inv_X14_newValue_76 (σ : rS) (x1 : Int) (x2 : Int)  (s : rS) (k : Int) : Prop := 0 ≤ k ∧ k ≤ x2 ∧ (rF s 0 43) = (rF σ 0 43) ∧ (rF s 0 45) = (rF σ 0 45) ∧ (rF σ 0 45) + x2 ≤ 16000 ∧ (rF σ 0 43) < 500 ∧ VMp s ∧ WFp s
def mu_X14_newValue_76 (σ : rS) (x1 : Int) (x2 : Int) (s : rS) (k : Int) : Nat := (1 + (x2 - k).toNat)
def VC_X14_newValue (σ : rS) (x1 : Int) (x2 : Int) (Q : Int → rS → Prop) : Prop := (rng (rF σ 0 43) → (((rF σ 0 43) = 500 → Q (-1) σ) ∧ (¬ (rF σ 0 43) = 500 → (rng (rF σ 0 45) → rng ((rF σ 0 45) + x2) ∧ ((16000 < ((rF σ 0 45) + x2) → Q (-1) σ) ∧ (¬ 16000 < ((rF σ 0 45) + x2) → pre_X14_isMade σ ∧ (∀ (x13 : Int), rng x13 → post_X14_isMade σ x13 → ((x13 = 0 → (0 ≤ (rF σ 0 43) ∧ (rF σ 0 43) < 500) ∧ (0 ≤ (rF σ 0 43) ∧ (rF σ 0 43) < 500) ∧ (0 ≤ (rF σ 0 43) ∧ (rF σ 0 43) < 500) ∧ (0 ≤ (rF σ 0 43) ∧ (rF σ 0 43) < 500) ∧ (inv_X14_newValue_76 σ x1 x2 (sA (sA (sA (sA σ 1046 (rF σ 0 43) x1) 1051 (rF σ 0 43) 0) 1049 (rF σ 0 43) (rF σ 0 45)) 1050 (rF σ 0 43) x2) 0)) ∧ (¬ x13 = 0 → Q (-1) σ)))))))))
def VC_X14_newValue_76 (σ : rS) (x1 : Int) (x2 : Int) (Q : Int → rS → Prop) : Prop := ∀ (s22 : rS) (y23 : Int), rWF s22 → rng y23 → (KYp σ → KYp s22) → (PPp σ → PPp s22) → rF s22 0 3 = rF σ 0 3 → rF s22 0 44 = rF σ 0 44 → rF s22 0 60 = rF σ 0 60 → inv_X14_newValue_76 σ x1 x2 s22 y23 → (((x2 ≤ y23 → (rng (rF s22 0 45) → rng ((rF s22 0 45) + x2) ∧ (rng (rF s22 0 43) → rng ((rF s22 0 43) + 1) ∧ rng (((rF s22 0 43) + 1) - 1) ∧ Q (((rF s22 0 43) + 1) - 1) (sF (sF s22 0 45 ((rF s22 0 45) + x2)) 0 43 ((rF s22 0 43) + 1))))) ∧ (¬ x2 ≤ y23 → (rng (rF s22 0 45) → (0 ≤ y23 ∧ y23 < 4000) ∧ (rng (rA s22 1002 y23) → (0 ≤ ((rF s22 0 45) + y23) ∧ ((rF s22 0 45) + y23) < 16000) ∧ rng (y23 + 1) ∧ (inv_X14_newValue_76 σ x1 x2 (sA s22 1048 ((rF s22 0 45) + y23) (inar .byte (rA s22 1002 y23))) (y23 + 1) ∧ (mu_X14_newValue_76 σ x1 x2 (sA s22 1048 ((rF s22 0 45) + y23) (inar .byte (rA s22 1002 y23))) (y23 + 1)) < (mu_X14_newValue_76 σ x1 x2 s22 y23)))))))
def VC_X14_newValue_76m (σ : rS) (x1 : Int) (x2 : Int) : Prop := ∀ (s22 : rS) (y23 : Int), rWF s22 → rng y23 → (KYp σ → KYp s22) → (PPp σ → PPp s22) → rF s22 0 3 = rF σ 0 3 → rF s22 0 44 = rF σ 0 44 → rF s22 0 60 = rF σ 0 60 → inv_X14_newValue_76 σ x1 x2 s22 y23 → 0 < (mu_X14_newValue_76 σ x1 x2 s22 y23)
set_option maxHeartbeats 400000 in
theorem vX14_newValue (σ : rS) (x1 : Int) (x2 : Int) (hwf : rWF σ) (hx1 : rng x1) (hx2 : rng x2) (hp : pre_X14_newValue σ x1 x2) : VC_X14_newValue σ x1 x2 (post_X14_newValue σ x1 x2) := by
  simp only [VC_X14_newValue, pre_X14_newValue, post_X14_newValue, inv_X14_newValue_76, mu_X14_newValue_76, pre_X14_isMade, post_X14_isMade, VMp, WFp, rng, rfk, rNMp, rF_sF, rF_sA, rF_sL, rF_sR, rA_sA, rA_sF, rA_sL, rA_sR, rR_sF, rR_sA, rR_sL, rR_sR, reduceIte, and_true, true_and, and_false, false_and, and_self, VMp_sL, VMp_sF0, VMp_sF3, VMp_sF10, VMp_sF11, VMp_sF12, VMp_sF13, VMp_sF14, VMp_sF16, VMp_sF17, VMp_sF18, VMp_sF19, VMp_sF21, VMp_sF22, VMp_sF23, VMp_sF24, VMp_sF25, VMp_sF28, VMp_sF29, VMp_sF30, VMp_sF31, VMp_sF32, VMp_sF33, VMp_sF38, VMp_sF39, VMp_sF41, VMp_sF42, VMp_sF43, VMp_sF44, VMp_sF45, VMp_sF60, VMp_sF65, VMp_sF66, VMp_sF67, VMp_sF68, VMp_sF70, VMp_sF71, VMp_sF72, VMp_sF73, VMp_sF74, VMp_sF80, VMp_sF81, VMp_sF82, VMp_sF83, VMp_sF88, VMp_sF92, VMp_sF94, VMp_sF96, VMp_sF97, VMp_sF98, VMp_sF99, VMp_sF100, VMp_sF101, VMp_sF103, VMp_sF104, VMp_sF112, VMp_sF113, VMp_sF118, VMp_sF119, VMp_sF122, VMp_sF123, VMp_sF135, VMp_sF137, VMp_sA1, VMp_sA2, VMp_sA5, VMp_sA20, VMp_sA26, VMp_sA27, VMp_sA34, VMp_sA35, VMp_sA36, VMp_sA37, VMp_sA40, VMp_sA47, VMp_sA48, VMp_sA49, VMp_sA50, VMp_sA52, VMp_sA53, VMp_sA54, VMp_sA55, VMp_sA56, VMp_sA57, VMp_sA58, VMp_sA59, VMp_sA61, VMp_sA62, VMp_sA63, VMp_sA64, VMp_sA69, VMp_sA75, VMp_sA76, VMp_sA77, VMp_sA78, VMp_sA79, VMp_sA84, VMp_sA85, VMp_sA86, VMp_sA87, VMp_sA89, VMp_sA90, VMp_sA91, VMp_sA93, VMp_sA102, VMp_sA105, VMp_sA106, VMp_sA107, VMp_sA108, VMp_sA109, VMp_sA110, VMp_sA111, VMp_sA114, VMp_sA115, VMp_sA116, VMp_sA117, VMp_sA120, VMp_sA121, VMp_sA124, VMp_sA125, VMp_sA126, VMp_sA127, VMp_sA128, VMp_sA129, VMp_sA136, VMp_sA138, VMp_gA0, VMp_gA1, VMp_gA2, VMp_gA3, VMp_gA4, VMp_gA5, VMp_gA6, VMp_gA8, VMp_gA10, VMp_gA11, VMp_gA15, VMp_gA16, VMp_gA17, VMp_gA18, VMp_gA19, VMp_gA20, VMp_gA21, VMp_gA22, VMp_gA23, VMp_gA24, VMp_gA25, VMp_gA26, VMp_gA27, VMp_gA29, VMp_gA30, VMp_gA31, VMp_gA33, VMp_gA34, VMp_gA35, VMp_gA36, VMp_gA37, VMp_sF7, VMp_sF9, KYp_sL, KYp_sF0, KYp_sF3, KYp_sF10, KYp_sF11, KYp_sF12, KYp_sF13, KYp_sF14, KYp_sF16, KYp_sF17, KYp_sF18, KYp_sF19, KYp_sF21, KYp_sF22, KYp_sF23, KYp_sF24, KYp_sF25, KYp_sF28, KYp_sF29, KYp_sF30, KYp_sF31, KYp_sF32, KYp_sF33, KYp_sF38, KYp_sF39, KYp_sF41, KYp_sF42, KYp_sF43, KYp_sF44, KYp_sF45, KYp_sF60, KYp_sF65, KYp_sF66, KYp_sF67, KYp_sF68, KYp_sF70, KYp_sF71, KYp_sF72, KYp_sF73, KYp_sF74, KYp_sF80, KYp_sF81, KYp_sF82, KYp_sF83, KYp_sF88, KYp_sF92, KYp_sF94, KYp_sF96, KYp_sF97, KYp_sF98, KYp_sF99, KYp_sF100, KYp_sF101, KYp_sF103, KYp_sF104, KYp_sF112, KYp_sF113, KYp_sF118, KYp_sF119, KYp_sF122, KYp_sF123, KYp_sF135, KYp_sF137, KYp_sA1, KYp_sA2, KYp_sA5, KYp_sA20, KYp_sA26, KYp_sA27, KYp_sA34, KYp_sA35, KYp_sA36, KYp_sA37, KYp_sA40, KYp_sA46, KYp_sA47, KYp_sA48, KYp_sA49, KYp_sA50, KYp_sA51, KYp_sA52, KYp_sA55, KYp_sA56, KYp_sA57, KYp_sA58, KYp_sA59, KYp_sA61, KYp_sA62, KYp_sA63, KYp_sA64, KYp_sA69, KYp_sA75, KYp_sA76, KYp_sA77, KYp_sA78, KYp_sA79, KYp_sA84, KYp_sA85, KYp_sA86, KYp_sA87, KYp_sA89, KYp_sA90, KYp_sA91, KYp_sA93, KYp_sA102, KYp_sA105, KYp_sA106, KYp_sA107, KYp_sA108, KYp_sA109, KYp_sA110, KYp_sA111, KYp_sA114, KYp_sA115, KYp_sA116, KYp_sA117, KYp_sA120, KYp_sA121, KYp_sA124, KYp_sA125, KYp_sA126, KYp_sA127, KYp_sA128, KYp_sA129, KYp_sA136, KYp_sA138, KYp_gA0, KYp_gA1, KYp_gA2, KYp_gA3, KYp_gA4, KYp_gA5, KYp_gA6, KYp_gA8, KYp_gA10, KYp_gA11, KYp_gA15, KYp_gA16, KYp_gA17, KYp_gA18, KYp_gA19, KYp_gA20, KYp_gA21, KYp_gA22, KYp_gA23, KYp_gA24, KYp_gA25, KYp_gA26, KYp_gA27, KYp_gA29, KYp_gA30, KYp_gA31, KYp_gA33, KYp_gA34, KYp_gA35, KYp_gA36, KYp_gA37, KYp_sF7, KYp_sF9, PPp_sL, PPp_sF0, PPp_sF3, PPp_sF10, PPp_sF11, PPp_sF12, PPp_sF13, PPp_sF14, PPp_sF16, PPp_sF17, PPp_sF18, PPp_sF19, PPp_sF21, PPp_sF22, PPp_sF23, PPp_sF24, PPp_sF25, PPp_sF28, PPp_sF29, PPp_sF30, PPp_sF31, PPp_sF32, PPp_sF33, PPp_sF38, PPp_sF39, PPp_sF41, PPp_sF42, PPp_sF43, PPp_sF44, PPp_sF45, PPp_sF60, PPp_sF65, PPp_sF66, PPp_sF67, PPp_sF68, PPp_sF70, PPp_sF71, PPp_sF72, PPp_sF73, PPp_sF74, PPp_sF80, PPp_sF81, PPp_sF82, PPp_sF83, PPp_sF88, PPp_sF92, PPp_sF94, PPp_sF96, PPp_sF97, PPp_sF98, PPp_sF99, PPp_sF100, PPp_sF101, PPp_sF103, PPp_sF104, PPp_sF112, PPp_sF113, PPp_sF118, PPp_sF119, PPp_sF122, PPp_sF123, PPp_sF135, PPp_sF137, PPp_sA1, PPp_sA2, PPp_sA5, PPp_sA20, PPp_sA26, PPp_sA27, PPp_sA34, PPp_sA35, PPp_sA36, PPp_sA37, PPp_sA40, PPp_sA46, PPp_sA47, PPp_sA48, PPp_sA49, PPp_sA50, PPp_sA51, PPp_sA52, PPp_sA53, PPp_sA54, PPp_sA55, PPp_sA58, PPp_sA59, PPp_sA61, PPp_sA62, PPp_sA63, PPp_sA64, PPp_sA69, PPp_sA75, PPp_sA76, PPp_sA77, PPp_sA78, PPp_sA79, PPp_sA84, PPp_sA85, PPp_sA86, PPp_sA87, PPp_sA89, PPp_sA90, PPp_sA91, PPp_sA93, PPp_sA102, PPp_sA105, PPp_sA106, PPp_sA107, PPp_sA108, PPp_sA109, PPp_sA110, PPp_sA111, PPp_sA114, PPp_sA115, PPp_sA116, PPp_sA117, PPp_sA120, PPp_sA121, PPp_sA124, PPp_sA125, PPp_sA126, PPp_sA127, PPp_sA128, PPp_sA129, PPp_sA136, PPp_sA138, PPp_gA0, PPp_gA1, PPp_gA2, PPp_gA3, PPp_gA4, PPp_gA5, PPp_gA6, PPp_gA8, PPp_gA10, PPp_gA11, PPp_gA15, PPp_gA16, PPp_gA17, PPp_gA18, PPp_gA19, PPp_gA20, PPp_gA21, PPp_gA22, PPp_gA23, PPp_gA24, PPp_gA25, PPp_gA26, PPp_gA27, PPp_gA29, PPp_gA30, PPp_gA31, PPp_gA33, PPp_gA34, PPp_gA35, PPp_gA36, PPp_gA37, PPp_sF7, PPp_sF9, WFp_sL, WFp_sF0, WFp_sF3, WFp_sF10, WFp_sF11, WFp_sF12, WFp_sF13, WFp_sF14, WFp_sF16, WFp_sF17, WFp_sF18, WFp_sF19, WFp_sF21, WFp_sF22, WFp_sF23, WFp_sF24, WFp_sF25, WFp_sF28, WFp_sF29, WFp_sF30, WFp_sF31, WFp_sF32, WFp_sF33, WFp_sF38, WFp_sF39, WFp_sF41, WFp_sF42, WFp_sF43, WFp_sF44, WFp_sF45, WFp_sF60, WFp_sF65, WFp_sF66, WFp_sF67, WFp_sF68, WFp_sF70, WFp_sF71, WFp_sF72, WFp_sF73, WFp_sF74, WFp_sF80, WFp_sF81, WFp_sF82, WFp_sF83, WFp_sF88, WFp_sF92, WFp_sF94, WFp_sF96, WFp_sF97, WFp_sF98, WFp_sF99, WFp_sF100, WFp_sF101, WFp_sF103, WFp_sF104, WFp_sF112, WFp_sF113, WFp_sF118, WFp_sF119, WFp_sF122, WFp_sF123, WFp_sF135, WFp_sF137, WFp_sA1, WFp_sA2, WFp_sA5, WFp_sA20, WFp_sA26, WFp_sA27, WFp_sA34, WFp_sA35, WFp_sA36, WFp_sA37, WFp_sA40, WFp_sA46, WFp_sA47, WFp_sA48, WFp_sA51, WFp_sA52, WFp_sA53, WFp_sA54, WFp_sA55, WFp_sA56, WFp_sA57, WFp_sA58, WFp_sA59, WFp_sA61, WFp_sA62, WFp_sA63, WFp_sA64, WFp_sA69, WFp_sA75, WFp_sA76, WFp_sA77, WFp_sA78, WFp_sA79, WFp_sA84, WFp_sA85, WFp_sA86, WFp_sA87, WFp_sA89, WFp_sA90, WFp_sA91, WFp_sA93, WFp_sA102, WFp_sA105, WFp_sA106, WFp_sA107, WFp_sA108, WFp_sA109, WFp_sA110, WFp_sA111, WFp_sA114, WFp_sA115, WFp_sA116, WFp_sA117, WFp_sA120, WFp_sA121, WFp_sA124, WFp_sA125, WFp_sA126, WFp_sA127, WFp_sA128, WFp_sA129, WFp_sA136, WFp_sA138, WFp_gA0, WFp_gA1, WFp_gA2, WFp_gA3, WFp_gA4, WFp_gA5, WFp_gA6, WFp_gA8, WFp_gA10, WFp_gA11, WFp_gA15, WFp_gA16, WFp_gA17, WFp_gA18, WFp_gA19, WFp_gA20, WFp_gA21, WFp_gA22, WFp_gA23, WFp_gA24, WFp_gA25, WFp_gA26, WFp_gA27, WFp_gA29, WFp_gA30, WFp_gA31, WFp_gA33, WFp_gA34, WFp_gA35, WFp_gA36, WFp_gA37, WFp_sF7, WFp_sF9] at *
  (repeat' (first | with_reducible intro _ | with_reducible apply And.intro))
  all_goals (first | assumption | omega | grind (splits := 20) [rNM_sF0])
set_option maxHeartbeats 400000 in
theorem vX14_newValue_76 (σ : rS) (x1 : Int) (x2 : Int) (hwf : rWF σ) (hx1 : rng x1) (hx2 : rng x2) (hp : pre_X14_newValue σ x1 x2) : VC_X14_newValue_76 σ x1 x2 (post_X14_newValue σ x1 x2) := by
  simp only [VC_X14_newValue_76, pre_X14_newValue, post_X14_newValue, inv_X14_newValue_76, mu_X14_newValue_76, pre_X14_isMade, post_X14_isMade, VMp, WFp, rng, rfk, rNMp, rF_sF, rF_sA, rF_sL, rF_sR, rA_sA, rA_sF, rA_sL, rA_sR, rR_sF, rR_sA, rR_sL, rR_sR, reduceIte, and_true, true_and, and_false, false_and, and_self, VMp_sL, VMp_sF0, VMp_sF3, VMp_sF10, VMp_sF11, VMp_sF12, VMp_sF13, VMp_sF14, VMp_sF16, VMp_sF17, VMp_sF18, VMp_sF19, VMp_sF21, VMp_sF22, VMp_sF23, VMp_sF24, VMp_sF25, VMp_sF28, VMp_sF29, VMp_sF30, VMp_sF31, VMp_sF32, VMp_sF33, VMp_sF38, VMp_sF39, VMp_sF41, VMp_sF42, VMp_sF43, VMp_sF44, VMp_sF45, VMp_sF60, VMp_sF65, VMp_sF66, VMp_sF67, VMp_sF68, VMp_sF70, VMp_sF71, VMp_sF72, VMp_sF73, VMp_sF74, VMp_sF80, VMp_sF81, VMp_sF82, VMp_sF83, VMp_sF88, VMp_sF92, VMp_sF94, VMp_sF96, VMp_sF97, VMp_sF98, VMp_sF99, VMp_sF100, VMp_sF101, VMp_sF103, VMp_sF104, VMp_sF112, VMp_sF113, VMp_sF118, VMp_sF119, VMp_sF122, VMp_sF123, VMp_sF135, VMp_sF137, VMp_sA1, VMp_sA2, VMp_sA5, VMp_sA20, VMp_sA26, VMp_sA27, VMp_sA34, VMp_sA35, VMp_sA36, VMp_sA37, VMp_sA40, VMp_sA47, VMp_sA48, VMp_sA49, VMp_sA50, VMp_sA52, VMp_sA53, VMp_sA54, VMp_sA55, VMp_sA56, VMp_sA57, VMp_sA58, VMp_sA59, VMp_sA61, VMp_sA62, VMp_sA63, VMp_sA64, VMp_sA69, VMp_sA75, VMp_sA76, VMp_sA77, VMp_sA78, VMp_sA79, VMp_sA84, VMp_sA85, VMp_sA86, VMp_sA87, VMp_sA89, VMp_sA90, VMp_sA91, VMp_sA93, VMp_sA102, VMp_sA105, VMp_sA106, VMp_sA107, VMp_sA108, VMp_sA109, VMp_sA110, VMp_sA111, VMp_sA114, VMp_sA115, VMp_sA116, VMp_sA117, VMp_sA120, VMp_sA121, VMp_sA124, VMp_sA125, VMp_sA126, VMp_sA127, VMp_sA128, VMp_sA129, VMp_sA136, VMp_sA138, VMp_gA0, VMp_gA1, VMp_gA2, VMp_gA3, VMp_gA4, VMp_gA5, VMp_gA6, VMp_gA8, VMp_gA10, VMp_gA11, VMp_gA15, VMp_gA16, VMp_gA17, VMp_gA18, VMp_gA19, VMp_gA20, VMp_gA21, VMp_gA22, VMp_gA23, VMp_gA24, VMp_gA25, VMp_gA26, VMp_gA27, VMp_gA29, VMp_gA30, VMp_gA31, VMp_gA33, VMp_gA34, VMp_gA35, VMp_gA36, VMp_gA37, VMp_sF7, VMp_sF9, KYp_sL, KYp_sF0, KYp_sF3, KYp_sF10, KYp_sF11, KYp_sF12, KYp_sF13, KYp_sF14, KYp_sF16, KYp_sF17, KYp_sF18, KYp_sF19, KYp_sF21, KYp_sF22, KYp_sF23, KYp_sF24, KYp_sF25, KYp_sF28, KYp_sF29, KYp_sF30, KYp_sF31, KYp_sF32, KYp_sF33, KYp_sF38, KYp_sF39, KYp_sF41, KYp_sF42, KYp_sF43, KYp_sF44, KYp_sF45, KYp_sF60, KYp_sF65, KYp_sF66, KYp_sF67, KYp_sF68, KYp_sF70, KYp_sF71, KYp_sF72, KYp_sF73, KYp_sF74, KYp_sF80, KYp_sF81, KYp_sF82, KYp_sF83, KYp_sF88, KYp_sF92, KYp_sF94, KYp_sF96, KYp_sF97, KYp_sF98, KYp_sF99, KYp_sF100, KYp_sF101, KYp_sF103, KYp_sF104, KYp_sF112, KYp_sF113, KYp_sF118, KYp_sF119, KYp_sF122, KYp_sF123, KYp_sF135, KYp_sF137, KYp_sA1, KYp_sA2, KYp_sA5, KYp_sA20, KYp_sA26, KYp_sA27, KYp_sA34, KYp_sA35, KYp_sA36, KYp_sA37, KYp_sA40, KYp_sA46, KYp_sA47, KYp_sA48, KYp_sA49, KYp_sA50, KYp_sA51, KYp_sA52, KYp_sA55, KYp_sA56, KYp_sA57, KYp_sA58, KYp_sA59, KYp_sA61, KYp_sA62, KYp_sA63, KYp_sA64, KYp_sA69, KYp_sA75, KYp_sA76, KYp_sA77, KYp_sA78, KYp_sA79, KYp_sA84, KYp_sA85, KYp_sA86, KYp_sA87, KYp_sA89, KYp_sA90, KYp_sA91, KYp_sA93, KYp_sA102, KYp_sA105, KYp_sA106, KYp_sA107, KYp_sA108, KYp_sA109, KYp_sA110, KYp_sA111, KYp_sA114, KYp_sA115, KYp_sA116, KYp_sA117, KYp_sA120, KYp_sA121, KYp_sA124, KYp_sA125, KYp_sA126, KYp_sA127, KYp_sA128, KYp_sA129, KYp_sA136, KYp_sA138, KYp_gA0, KYp_gA1, KYp_gA2, KYp_gA3, KYp_gA4, KYp_gA5, KYp_gA6, KYp_gA8, KYp_gA10, KYp_gA11, KYp_gA15, KYp_gA16, KYp_gA17, KYp_gA18, KYp_gA19, KYp_gA20, KYp_gA21, KYp_gA22, KYp_gA23, KYp_gA24, KYp_gA25, KYp_gA26, KYp_gA27, KYp_gA29, KYp_gA30, KYp_gA31, KYp_gA33, KYp_gA34, KYp_gA35, KYp_gA36, KYp_gA37, KYp_sF7, KYp_sF9, PPp_sL, PPp_sF0, PPp_sF3, PPp_sF10, PPp_sF11, PPp_sF12, PPp_sF13, PPp_sF14, PPp_sF16, PPp_sF17, PPp_sF18, PPp_sF19, PPp_sF21, PPp_sF22, PPp_sF23, PPp_sF24, PPp_sF25, PPp_sF28, PPp_sF29, PPp_sF30, PPp_sF31, PPp_sF32, PPp_sF33, PPp_sF38, PPp_sF39, PPp_sF41, PPp_sF42, PPp_sF43, PPp_sF44, PPp_sF45, PPp_sF60, PPp_sF65, PPp_sF66, PPp_sF67, PPp_sF68, PPp_sF70, PPp_sF71, PPp_sF72, PPp_sF73, PPp_sF74, PPp_sF80, PPp_sF81, PPp_sF82, PPp_sF83, PPp_sF88, PPp_sF92, PPp_sF94, PPp_sF96, PPp_sF97, PPp_sF98, PPp_sF99, PPp_sF100, PPp_sF101, PPp_sF103, PPp_sF104, PPp_sF112, PPp_sF113, PPp_sF118, PPp_sF119, PPp_sF122, PPp_sF123, PPp_sF135, PPp_sF137, PPp_sA1, PPp_sA2, PPp_sA5, PPp_sA20, PPp_sA26, PPp_sA27, PPp_sA34, PPp_sA35, PPp_sA36, PPp_sA37, PPp_sA40, PPp_sA46, PPp_sA47, PPp_sA48, PPp_sA49, PPp_sA50, PPp_sA51, PPp_sA52, PPp_sA53, PPp_sA54, PPp_sA55, PPp_sA58, PPp_sA59, PPp_sA61, PPp_sA62, PPp_sA63, PPp_sA64, PPp_sA69, PPp_sA75, PPp_sA76, PPp_sA77, PPp_sA78, PPp_sA79, PPp_sA84, PPp_sA85, PPp_sA86, PPp_sA87, PPp_sA89, PPp_sA90, PPp_sA91, PPp_sA93, PPp_sA102, PPp_sA105, PPp_sA106, PPp_sA107, PPp_sA108, PPp_sA109, PPp_sA110, PPp_sA111, PPp_sA114, PPp_sA115, PPp_sA116, PPp_sA117, PPp_sA120, PPp_sA121, PPp_sA124, PPp_sA125, PPp_sA126, PPp_sA127, PPp_sA128, PPp_sA129, PPp_sA136, PPp_sA138, PPp_gA0, PPp_gA1, PPp_gA2, PPp_gA3, PPp_gA4, PPp_gA5, PPp_gA6, PPp_gA8, PPp_gA10, PPp_gA11, PPp_gA15, PPp_gA16, PPp_gA17, PPp_gA18, PPp_gA19, PPp_gA20, PPp_gA21, PPp_gA22, PPp_gA23, PPp_gA24, PPp_gA25, PPp_gA26, PPp_gA27, PPp_gA29, PPp_gA30, PPp_gA31, PPp_gA33, PPp_gA34, PPp_gA35, PPp_gA36, PPp_gA37, PPp_sF7, PPp_sF9, WFp_sL, WFp_sF0, WFp_sF3, WFp_sF10, WFp_sF11, WFp_sF12, WFp_sF13, WFp_sF14, WFp_sF16, WFp_sF17, WFp_sF18, WFp_sF19, WFp_sF21, WFp_sF22, WFp_sF23, WFp_sF24, WFp_sF25, WFp_sF28, WFp_sF29, WFp_sF30, WFp_sF31, WFp_sF32, WFp_sF33, WFp_sF38, WFp_sF39, WFp_sF41, WFp_sF42, WFp_sF43, WFp_sF44, WFp_sF45, WFp_sF60, WFp_sF65, WFp_sF66, WFp_sF67, WFp_sF68, WFp_sF70, WFp_sF71, WFp_sF72, WFp_sF73, WFp_sF74, WFp_sF80, WFp_sF81, WFp_sF82, WFp_sF83, WFp_sF88, WFp_sF92, WFp_sF94, WFp_sF96, WFp_sF97, WFp_sF98, WFp_sF99, WFp_sF100, WFp_sF101, WFp_sF103, WFp_sF104, WFp_sF112, WFp_sF113, WFp_sF118, WFp_sF119, WFp_sF122, WFp_sF123, WFp_sF135, WFp_sF137, WFp_sA1, WFp_sA2, WFp_sA5, WFp_sA20, WFp_sA26, WFp_sA27, WFp_sA34, WFp_sA35, WFp_sA36, WFp_sA37, WFp_sA40, WFp_sA46, WFp_sA47, WFp_sA48, WFp_sA51, WFp_sA52, WFp_sA53, WFp_sA54, WFp_sA55, WFp_sA56, WFp_sA57, WFp_sA58, WFp_sA59, WFp_sA61, WFp_sA62, WFp_sA63, WFp_sA64, WFp_sA69, WFp_sA75, WFp_sA76, WFp_sA77, WFp_sA78, WFp_sA79, WFp_sA84, WFp_sA85, WFp_sA86, WFp_sA87, WFp_sA89, WFp_sA90, WFp_sA91, WFp_sA93, WFp_sA102, WFp_sA105, WFp_sA106, WFp_sA107, WFp_sA108, WFp_sA109, WFp_sA110, WFp_sA111, WFp_sA114, WFp_sA115, WFp_sA116, WFp_sA117, WFp_sA120, WFp_sA121, WFp_sA124, WFp_sA125, WFp_sA126, WFp_sA127, WFp_sA128, WFp_sA129, WFp_sA136, WFp_sA138, WFp_gA0, WFp_gA1, WFp_gA2, WFp_gA3, WFp_gA4, WFp_gA5, WFp_gA6, WFp_gA8, WFp_gA10, WFp_gA11, WFp_gA15, WFp_gA16, WFp_gA17, WFp_gA18, WFp_gA19, WFp_gA20, WFp_gA21, WFp_gA22, WFp_gA23, WFp_gA24, WFp_gA25, WFp_gA26, WFp_gA27, WFp_gA29, WFp_gA30, WFp_gA31, WFp_gA33, WFp_gA34, WFp_gA35, WFp_gA36, WFp_gA37, WFp_sF7, WFp_sF9] at *
  (repeat' (first | with_reducible intro _ | with_reducible apply And.intro))
  all_goals (first | assumption | omega | grind (splits := 20) [rNM_sF0])
set_option maxHeartbeats 400000 in
theorem vX14_newValue_76m (σ : rS) (x1 : Int) (x2 : Int) (hwf : rWF σ) (hx1 : rng x1) (hx2 : rng x2) (hp : pre_X14_newValue σ x1 x2) : VC_X14_newValue_76m σ x1 x2 := by
  simp only [VC_X14_newValue_76m, pre_X14_newValue, post_X14_newValue, inv_X14_newValue_76, mu_X14_newValue_76, pre_X14_isMade, post_X14_isMade, VMp, WFp, rng, rfk, rNMp, rF_sF, rF_sA, rF_sL, rF_sR, rA_sA, rA_sF, rA_sL, rA_sR, rR_sF, rR_sA, rR_sL, rR_sR, reduceIte, and_true, true_and, and_false, false_and, and_self, VMp_sL, VMp_sF0, VMp_sF3, VMp_sF10, VMp_sF11, VMp_sF12, VMp_sF13, VMp_sF14, VMp_sF16, VMp_sF17, VMp_sF18, VMp_sF19, VMp_sF21, VMp_sF22, VMp_sF23, VMp_sF24, VMp_sF25, VMp_sF28, VMp_sF29, VMp_sF30, VMp_sF31, VMp_sF32, VMp_sF33, VMp_sF38, VMp_sF39, VMp_sF41, VMp_sF42, VMp_sF43, VMp_sF44, VMp_sF45, VMp_sF60, VMp_sF65, VMp_sF66, VMp_sF67, VMp_sF68, VMp_sF70, VMp_sF71, VMp_sF72, VMp_sF73, VMp_sF74, VMp_sF80, VMp_sF81, VMp_sF82, VMp_sF83, VMp_sF88, VMp_sF92, VMp_sF94, VMp_sF96, VMp_sF97, VMp_sF98, VMp_sF99, VMp_sF100, VMp_sF101, VMp_sF103, VMp_sF104, VMp_sF112, VMp_sF113, VMp_sF118, VMp_sF119, VMp_sF122, VMp_sF123, VMp_sF135, VMp_sF137, VMp_sA1, VMp_sA2, VMp_sA5, VMp_sA20, VMp_sA26, VMp_sA27, VMp_sA34, VMp_sA35, VMp_sA36, VMp_sA37, VMp_sA40, VMp_sA47, VMp_sA48, VMp_sA49, VMp_sA50, VMp_sA52, VMp_sA53, VMp_sA54, VMp_sA55, VMp_sA56, VMp_sA57, VMp_sA58, VMp_sA59, VMp_sA61, VMp_sA62, VMp_sA63, VMp_sA64, VMp_sA69, VMp_sA75, VMp_sA76, VMp_sA77, VMp_sA78, VMp_sA79, VMp_sA84, VMp_sA85, VMp_sA86, VMp_sA87, VMp_sA89, VMp_sA90, VMp_sA91, VMp_sA93, VMp_sA102, VMp_sA105, VMp_sA106, VMp_sA107, VMp_sA108, VMp_sA109, VMp_sA110, VMp_sA111, VMp_sA114, VMp_sA115, VMp_sA116, VMp_sA117, VMp_sA120, VMp_sA121, VMp_sA124, VMp_sA125, VMp_sA126, VMp_sA127, VMp_sA128, VMp_sA129, VMp_sA136, VMp_sA138, VMp_gA0, VMp_gA1, VMp_gA2, VMp_gA3, VMp_gA4, VMp_gA5, VMp_gA6, VMp_gA8, VMp_gA10, VMp_gA11, VMp_gA15, VMp_gA16, VMp_gA17, VMp_gA18, VMp_gA19, VMp_gA20, VMp_gA21, VMp_gA22, VMp_gA23, VMp_gA24, VMp_gA25, VMp_gA26, VMp_gA27, VMp_gA29, VMp_gA30, VMp_gA31, VMp_gA33, VMp_gA34, VMp_gA35, VMp_gA36, VMp_gA37, VMp_sF7, VMp_sF9, KYp_sL, KYp_sF0, KYp_sF3, KYp_sF10, KYp_sF11, KYp_sF12, KYp_sF13, KYp_sF14, KYp_sF16, KYp_sF17, KYp_sF18, KYp_sF19, KYp_sF21, KYp_sF22, KYp_sF23, KYp_sF24, KYp_sF25, KYp_sF28, KYp_sF29, KYp_sF30, KYp_sF31, KYp_sF32, KYp_sF33, KYp_sF38, KYp_sF39, KYp_sF41, KYp_sF42, KYp_sF43, KYp_sF44, KYp_sF45, KYp_sF60, KYp_sF65, KYp_sF66, KYp_sF67, KYp_sF68, KYp_sF70, KYp_sF71, KYp_sF72, KYp_sF73, KYp_sF74, KYp_sF80, KYp_sF81, KYp_sF82, KYp_sF83, KYp_sF88, KYp_sF92, KYp_sF94, KYp_sF96, KYp_sF97, KYp_sF98, KYp_sF99, KYp_sF100, KYp_sF101, KYp_sF103, KYp_sF104, KYp_sF112, KYp_sF113, KYp_sF118, KYp_sF119, KYp_sF122, KYp_sF123, KYp_sF135, KYp_sF137, KYp_sA1, KYp_sA2, KYp_sA5, KYp_sA20, KYp_sA26, KYp_sA27, KYp_sA34, KYp_sA35, KYp_sA36, KYp_sA37, KYp_sA40, KYp_sA46, KYp_sA47, KYp_sA48, KYp_sA49, KYp_sA50, KYp_sA51, KYp_sA52, KYp_sA55, KYp_sA56, KYp_sA57, KYp_sA58, KYp_sA59, KYp_sA61, KYp_sA62, KYp_sA63, KYp_sA64, KYp_sA69, KYp_sA75, KYp_sA76, KYp_sA77, KYp_sA78, KYp_sA79, KYp_sA84, KYp_sA85, KYp_sA86, KYp_sA87, KYp_sA89, KYp_sA90, KYp_sA91, KYp_sA93, KYp_sA102, KYp_sA105, KYp_sA106, KYp_sA107, KYp_sA108, KYp_sA109, KYp_sA110, KYp_sA111, KYp_sA114, KYp_sA115, KYp_sA116, KYp_sA117, KYp_sA120, KYp_sA121, KYp_sA124, KYp_sA125, KYp_sA126, KYp_sA127, KYp_sA128, KYp_sA129, KYp_sA136, KYp_sA138, KYp_gA0, KYp_gA1, KYp_gA2, KYp_gA3, KYp_gA4, KYp_gA5, KYp_gA6, KYp_gA8, KYp_gA10, KYp_gA11, KYp_gA15, KYp_gA16, KYp_gA17, KYp_gA18, KYp_gA19, KYp_gA20, KYp_gA21, KYp_gA22, KYp_gA23, KYp_gA24, KYp_gA25, KYp_gA26, KYp_gA27, KYp_gA29, KYp_gA30, KYp_gA31, KYp_gA33, KYp_gA34, KYp_gA35, KYp_gA36, KYp_gA37, KYp_sF7, KYp_sF9, PPp_sL, PPp_sF0, PPp_sF3, PPp_sF10, PPp_sF11, PPp_sF12, PPp_sF13, PPp_sF14, PPp_sF16, PPp_sF17, PPp_sF18, PPp_sF19, PPp_sF21, PPp_sF22, PPp_sF23, PPp_sF24, PPp_sF25, PPp_sF28, PPp_sF29, PPp_sF30, PPp_sF31, PPp_sF32, PPp_sF33, PPp_sF38, PPp_sF39, PPp_sF41, PPp_sF42, PPp_sF43, PPp_sF44, PPp_sF45, PPp_sF60, PPp_sF65, PPp_sF66, PPp_sF67, PPp_sF68, PPp_sF70, PPp_sF71, PPp_sF72, PPp_sF73, PPp_sF74, PPp_sF80, PPp_sF81, PPp_sF82, PPp_sF83, PPp_sF88, PPp_sF92, PPp_sF94, PPp_sF96, PPp_sF97, PPp_sF98, PPp_sF99, PPp_sF100, PPp_sF101, PPp_sF103, PPp_sF104, PPp_sF112, PPp_sF113, PPp_sF118, PPp_sF119, PPp_sF122, PPp_sF123, PPp_sF135, PPp_sF137, PPp_sA1, PPp_sA2, PPp_sA5, PPp_sA20, PPp_sA26, PPp_sA27, PPp_sA34, PPp_sA35, PPp_sA36, PPp_sA37, PPp_sA40, PPp_sA46, PPp_sA47, PPp_sA48, PPp_sA49, PPp_sA50, PPp_sA51, PPp_sA52, PPp_sA53, PPp_sA54, PPp_sA55, PPp_sA58, PPp_sA59, PPp_sA61, PPp_sA62, PPp_sA63, PPp_sA64, PPp_sA69, PPp_sA75, PPp_sA76, PPp_sA77, PPp_sA78, PPp_sA79, PPp_sA84, PPp_sA85, PPp_sA86, PPp_sA87, PPp_sA89, PPp_sA90, PPp_sA91, PPp_sA93, PPp_sA102, PPp_sA105, PPp_sA106, PPp_sA107, PPp_sA108, PPp_sA109, PPp_sA110, PPp_sA111, PPp_sA114, PPp_sA115, PPp_sA116, PPp_sA117, PPp_sA120, PPp_sA121, PPp_sA124, PPp_sA125, PPp_sA126, PPp_sA127, PPp_sA128, PPp_sA129, PPp_sA136, PPp_sA138, PPp_gA0, PPp_gA1, PPp_gA2, PPp_gA3, PPp_gA4, PPp_gA5, PPp_gA6, PPp_gA8, PPp_gA10, PPp_gA11, PPp_gA15, PPp_gA16, PPp_gA17, PPp_gA18, PPp_gA19, PPp_gA20, PPp_gA21, PPp_gA22, PPp_gA23, PPp_gA24, PPp_gA25, PPp_gA26, PPp_gA27, PPp_gA29, PPp_gA30, PPp_gA31, PPp_gA33, PPp_gA34, PPp_gA35, PPp_gA36, PPp_gA37, PPp_sF7, PPp_sF9, WFp_sL, WFp_sF0, WFp_sF3, WFp_sF10, WFp_sF11, WFp_sF12, WFp_sF13, WFp_sF14, WFp_sF16, WFp_sF17, WFp_sF18, WFp_sF19, WFp_sF21, WFp_sF22, WFp_sF23, WFp_sF24, WFp_sF25, WFp_sF28, WFp_sF29, WFp_sF30, WFp_sF31, WFp_sF32, WFp_sF33, WFp_sF38, WFp_sF39, WFp_sF41, WFp_sF42, WFp_sF43, WFp_sF44, WFp_sF45, WFp_sF60, WFp_sF65, WFp_sF66, WFp_sF67, WFp_sF68, WFp_sF70, WFp_sF71, WFp_sF72, WFp_sF73, WFp_sF74, WFp_sF80, WFp_sF81, WFp_sF82, WFp_sF83, WFp_sF88, WFp_sF92, WFp_sF94, WFp_sF96, WFp_sF97, WFp_sF98, WFp_sF99, WFp_sF100, WFp_sF101, WFp_sF103, WFp_sF104, WFp_sF112, WFp_sF113, WFp_sF118, WFp_sF119, WFp_sF122, WFp_sF123, WFp_sF135, WFp_sF137, WFp_sA1, WFp_sA2, WFp_sA5, WFp_sA20, WFp_sA26, WFp_sA27, WFp_sA34, WFp_sA35, WFp_sA36, WFp_sA37, WFp_sA40, WFp_sA46, WFp_sA47, WFp_sA48, WFp_sA51, WFp_sA52, WFp_sA53, WFp_sA54, WFp_sA55, WFp_sA56, WFp_sA57, WFp_sA58, WFp_sA59, WFp_sA61, WFp_sA62, WFp_sA63, WFp_sA64, WFp_sA69, WFp_sA75, WFp_sA76, WFp_sA77, WFp_sA78, WFp_sA79, WFp_sA84, WFp_sA85, WFp_sA86, WFp_sA87, WFp_sA89, WFp_sA90, WFp_sA91, WFp_sA93, WFp_sA102, WFp_sA105, WFp_sA106, WFp_sA107, WFp_sA108, WFp_sA109, WFp_sA110, WFp_sA111, WFp_sA114, WFp_sA115, WFp_sA116, WFp_sA117, WFp_sA120, WFp_sA121, WFp_sA124, WFp_sA125, WFp_sA126, WFp_sA127, WFp_sA128, WFp_sA129, WFp_sA136, WFp_sA138, WFp_gA0, WFp_gA1, WFp_gA2, WFp_gA3, WFp_gA4, WFp_gA5, WFp_gA6, WFp_gA8, WFp_gA10, WFp_gA11, WFp_gA15, WFp_gA16, WFp_gA17, WFp_gA18, WFp_gA19, WFp_gA20, WFp_gA21, WFp_gA22, WFp_gA23, WFp_gA24, WFp_gA25, WFp_gA26, WFp_gA27, WFp_gA29, WFp_gA30, WFp_gA31, WFp_gA33, WFp_gA34, WFp_gA35, WFp_gA36, WFp_gA37, WFp_sF7, WFp_sF9] at *
  (repeat' (first | with_reducible intro _ | with_reducible apply And.intro))
  all_goals (first | assumption | omega | grind (splits := 20) [rNM_sF0])
theorem wX14_newValue (l : Launch) (G : zG) (κ : Nat → Nat) (σ : rS) (x1 : Int) (x2 : Int) (hwf : rWF σ) (hx1 : rng x1) (hx2 : rng x2) (Q : Int → rS → Prop) (h : VC_X14_newValue σ x1 x2 Q) (h_76 : VC_X14_newValue_76 σ x1 x2 Q) (h_76m : VC_X14_newValue_76m σ x1 x2) : rMi l G κ yX14_newValue cX14_newValue 4 .int 2 20 [.ref (κ 0), iv x1, iv x2] σ (fun x s => rKeep 0x280000000000 0 0xf400000000000 0 0 σ s ∧ Q x s) := by
  refine zMi.intro (by decide +kernel) (Nat.le_of_ble_eq_true rfl) (fun X hC hR => ?_)
  refine z_aload_n hC (pc := 0) 0 dX14_newValue_0 rfl rfl ?_
  refine y_get hC (pc := 1) zf14 rOb_0 43 (v := iv (rF σ 0 43)) dX14_newValue_1 zw2510 (rv_i (Or.inl rfl) rfl) (kk := ?_)
  have h := h (hwf.f _ _)
  refine z_sipush hC (pc := 4) (v := Int32.ofInt 500) dX14_newValue_4 (by decide) ?_
  obtain ⟨hT, hF⟩ := h
  refine y_icmp_eq hC (pc := 7) 29 (hwf.f _ _) (r_lit rfl) dX14_newValue_7 (by decide) (fun c => ?_) (fun c => ?_)
  · have h := hT c
    refine z_iconst hC (pc := 29) (v := Int32.ofInt (-1)) dX14_newValue_29 (by decide) ?_
    exact y_reti hR dX14_newValue_30 rfl (r_lit rfl) hwf (Nat.le_of_ble_eq_true rfl) (Nat.le_of_ble_eq_true rfl) ⟨rKeep.rf, h⟩
  · have h := hF c
    refine z_aload_n hC (pc := 10) 0 dX14_newValue_10 rfl rfl ?_
    refine y_get hC (pc := 11) zf14 rOb_0 45 (v := iv (rF σ 0 45)) dX14_newValue_11 zw2512 (rv_i (Or.inl rfl) rfl) (kk := ?_)
    have h := h (hwf.f _ _)
    refine z_iload_n hC (pc := 14) 2 dX14_newValue_14 rfl rfl ?_
    refine y_iadd hC (pc := 15) (v := ((rF σ 0 45) + x2)) dX14_newValue_15 rfl ?_
    refine z_sipush hC (pc := 16) (v := Int32.ofInt 16000) dX14_newValue_16 (by decide) ?_
    obtain ⟨r10, h⟩ := h
    obtain ⟨hT, hF⟩ := h
    refine y_icmp_gt hC (pc := 19) 29 r10 (r_lit rfl) dX14_newValue_19 (by decide) (fun c => ?_) (fun c => ?_)
    · have h := hT c
      refine z_iconst hC (pc := 29) (v := Int32.ofInt (-1)) dX14_newValue_29 (by decide) ?_
      exact y_reti hR dX14_newValue_30 rfl (r_lit rfl) hwf (Nat.le_of_ble_eq_true rfl) (Nat.le_of_ble_eq_true rfl) ⟨rKeep.rf, h⟩
    · have h := hF c
      refine z_aload_n hC (pc := 22) 0 dX14_newValue_22 rfl rfl ?_
      obtain ⟨p11, h⟩ := h
      refine y_callVi hC (pc := 23) (As := []) (kX14_isMade l G κ σ  hwf  p11) dmX14_isMade zf14 rOb_0 dX14_newValue_23 zw2893 rfl rfl (Nat.le_of_ble_eq_true rfl) (Nat.le_of_ble_eq_true rfl) (Nat.le_of_ble_eq_true rfl) (Nat.le_of_ble_eq_true rfl) (Nat.le_of_ble_eq_true rfl) (kk := fun x13 s12 hx13 Ws12 qs12 => ?_)
      obtain ⟨es12, qs12⟩ := qs12
      have es12 := es12.symm
      subst es12
      have h := h x13 hx13 qs12
      obtain ⟨hT, hF⟩ := h
      refine y_if_eq hC (pc := 26) 31 hx13 dX14_newValue_26 (by decide) (fun c => ?_) (fun c => ?_)
      · have h := hT c
        refine z_aload_n hC (pc := 31) 0 dX14_newValue_31 rfl rfl ?_
        refine y_get hC (pc := 32) zf14 rOb_0 46 (v := .ref (κ 1046)) dX14_newValue_32 zw2513 (rv_c rfl) (kk := ?_)
        refine z_aload_n hC (pc := 35) 0 dX14_newValue_35 rfl rfl ?_
        refine y_get hC (pc := 36) zf14 rOb_0 43 (v := iv (rF σ 0 43)) dX14_newValue_36 zw2510 (rv_i (Or.inl rfl) rfl) (kk := ?_)
        refine z_iload_n hC (pc := 39) 1 dX14_newValue_39 rfl rfl ?_
        obtain ⟨b14, h⟩ := h
        refine y_iast hC (pc := 40) (rAr_m rfl) dX14_newValue_40 b14 (v := x1) (kk := ?_)
        have W15 := hwf.sA (p := 1046) (i := (rF σ 0 43)) (x := x1) hx1
        refine z_aload_n hC (pc := 41) 0 dX14_newValue_41 rfl rfl ?_
        refine y_get hC (pc := 42) zf14 rOb_0 51 (v := .ref (κ 1051)) dX14_newValue_42 zw2518 (rv_c rfl) (kk := ?_)
        refine z_aload_n hC (pc := 45) 0 dX14_newValue_45 rfl rfl ?_
        refine y_get hC (pc := 46) zf14 rOb_0 43 (v := iv (rF σ 0 43)) dX14_newValue_46 zw2510 (rv_i (Or.inl rfl) rfl) (kk := ?_)
        refine z_iconst hC (pc := 49) (v := Int32.ofInt 0) dX14_newValue_49 (by decide) ?_
        obtain ⟨b16, h⟩ := h
        refine y_iast hC (pc := 50) (rAr_m rfl) dX14_newValue_50 b16 (v := 0) (kk := ?_)
        have W17 := W15.sA (p := 1051) (i := (rF σ 0 43)) (x := 0) (r_lit rfl)
        refine z_aload_n hC (pc := 51) 0 dX14_newValue_51 rfl rfl ?_
        refine y_get hC (pc := 52) zf14 rOb_0 49 (v := .ref (κ 1049)) dX14_newValue_52 zw2516 (rv_c rfl) (kk := ?_)
        refine z_aload_n hC (pc := 55) 0 dX14_newValue_55 rfl rfl ?_
        refine y_get hC (pc := 56) zf14 rOb_0 43 (v := iv (rF σ 0 43)) dX14_newValue_56 zw2510 (rv_i (Or.inl rfl) rfl) (kk := ?_)
        refine z_aload_n hC (pc := 59) 0 dX14_newValue_59 rfl rfl ?_
        refine y_get hC (pc := 60) zf14 rOb_0 45 (v := iv (rF σ 0 45)) dX14_newValue_60 zw2512 (rv_i (Or.inl rfl) rfl) (kk := ?_)
        obtain ⟨b18, h⟩ := h
        refine y_iast hC (pc := 63) (rAr_m rfl) dX14_newValue_63 b18 (v := (rF σ 0 45)) (kk := ?_)
        have W19 := W17.sA (p := 1049) (i := (rF σ 0 43)) (x := (rF σ 0 45)) (hwf.f _ _)
        refine z_aload_n hC (pc := 64) 0 dX14_newValue_64 rfl rfl ?_
        refine y_get hC (pc := 65) zf14 rOb_0 50 (v := .ref (κ 1050)) dX14_newValue_65 zw2517 (rv_c rfl) (kk := ?_)
        refine z_aload_n hC (pc := 68) 0 dX14_newValue_68 rfl rfl ?_
        refine y_get hC (pc := 69) zf14 rOb_0 43 (v := iv (rF σ 0 43)) dX14_newValue_69 zw2510 (rv_i (Or.inl rfl) rfl) (kk := ?_)
        refine z_iload_n hC (pc := 72) 2 dX14_newValue_72 rfl rfl ?_
        obtain ⟨b20, h⟩ := h
        refine y_iast hC (pc := 73) (rAr_m rfl) dX14_newValue_73 b20 (v := x2) (kk := ?_)
        have W21 := W19.sA (p := 1050) (i := (rF σ 0 43)) (x := x2) hx2
        refine z_iconst hC (pc := 74) (v := Int32.ofInt 0) dX14_newValue_74 (by decide) ?_
        refine z_istore_n hC (pc := 75) (lv' := [(3, iv 0), (0, .ref (κ 0)), (1, iv x1), (2, iv x2)]) dX14_newValue_75 rfl (by decide) rfl ?_
        have j76 : ∀ (d76 : Nat), ∀ (s22 : rS) (y23 : Int), rWF s22 → rng y23 → rKeep 0x280000000000 0 0xf400000000000 0 0 σ s22 → inv_X14_newValue_76 σ x1 x2 s22 y23 → (mu_X14_newValue_76 σ x1 x2 s22 y23) ≤ d76 → zS X G 4 (rW G κ s22) [(0, .ref (κ 0)), (2, iv x2), (3, iv y23)] 0 0 76 [] := by
          intro d76
          induction d76 with
          | zero =>
            intro s22 y23 Ws22 hy23 kJ hI hmu
            exact absurd hmu (by have := h_76m  s22 y23 Ws22 hy23 (KYp.keep kJ rfl rfl) (PPp.keep kJ rfl rfl) (kJ.F rfl) (kJ.F rfl) (kJ.F rfl) hI; omega)
          | succ d76 ih76 =>
            intro s22 y23 Ws22 hy23 kJ hI hmu76
            have h := h_76  s22 y23 Ws22 hy23 (KYp.keep kJ rfl rfl) (PPp.keep kJ rfl rfl) (kJ.F rfl) (kJ.F rfl) (kJ.F rfl) hI
            refine z_iload_n hC (pc := 76) 2 dX14_newValue_76 rfl rfl ?_
            refine z_iload_n hC (pc := 77) 1 dX14_newValue_77 rfl rfl ?_
            obtain ⟨hT, hF⟩ := h
            refine y_icmp_ge hC (pc := 78) 104 hy23 hx2 dX14_newValue_78 (by decide) (fun c => ?_) (fun c => ?_)
            · have h := hT c
              refine z_aload_n hC (pc := 104) 0 dX14_newValue_104 rfl rfl ?_
              refine z_dup hC (pc := 105) dX14_newValue_105 rfl ?_
              refine y_get hC (pc := 106) zf14 rOb_0 45 (v := iv (rF s22 0 45)) dX14_newValue_106 zw2512 (rv_i (Or.inl rfl) rfl) (kk := ?_)
              have h := h (Ws22.f _ _)
              refine z_iload_n hC (pc := 109) 1 dX14_newValue_109 rfl rfl ?_
              refine y_iadd hC (pc := 110) (v := ((rF s22 0 45) + x2)) dX14_newValue_110 rfl ?_
              obtain ⟨r24, h⟩ := h
              refine y_putI hC (pc := 111) zf14 rOb_0 45 (x := ((rF s22 0 45) + x2)) dX14_newValue_111 zw2512 (Or.inl rfl) rfl rfl (kk := ?_)
              have W25 := Ws22.sF (q := 0) (f := 45) (x := ((rF s22 0 45) + x2)) r24
              refine z_aload_n hC (pc := 114) 0 dX14_newValue_114 rfl rfl ?_
              refine z_dup hC (pc := 115) dX14_newValue_115 rfl ?_
              refine y_get hC (pc := 116) zf14 rOb_0 43 (v := iv (rF s22 0 43)) dX14_newValue_116 zw2510 (rv_i (Or.inl rfl) ((F_sF_ne (by decide)).trans rfl)) (kk := ?_)
              have h := h (Ws22.f _ _)
              refine z_iconst hC (pc := 119) (v := Int32.ofInt 1) dX14_newValue_119 (by decide) ?_
              refine y_iadd hC (pc := 120) (v := ((rF s22 0 43) + 1)) dX14_newValue_120 rfl ?_
              obtain ⟨r26, h⟩ := h
              refine y_putI hC (pc := 121) zf14 rOb_0 43 (x := ((rF s22 0 43) + 1)) dX14_newValue_121 zw2510 (Or.inl rfl) rfl rfl (kk := ?_)
              have W27 := W25.sF (q := 0) (f := 43) (x := ((rF s22 0 43) + 1)) r26
              refine z_aload_n hC (pc := 124) 0 dX14_newValue_124 rfl rfl ?_
              refine y_get hC (pc := 125) zf14 rOb_0 43 (v := iv ((rF s22 0 43) + 1)) dX14_newValue_125 zw2510 (rv_i (Or.inl rfl) (F_sF _ _ _ _)) (kk := ?_)
              refine z_iconst hC (pc := 128) (v := Int32.ofInt 1) dX14_newValue_128 (by decide) ?_
              refine y_isub hC (pc := 129) (v := (((rF s22 0 43) + 1) - 1)) dX14_newValue_129 rfl ?_
              obtain ⟨r28, h⟩ := h
              exact y_reti hR dX14_newValue_130 rfl r28 W27 (Nat.le_of_ble_eq_true rfl) (Nat.le_of_ble_eq_true rfl) ⟨(rKeep.tr (rKeep.tr (rKeep.tr rKeep.rf kJ rfl rfl rfl rfl rfl) (rKeep.sF0 (f := 45)) rfl rfl rfl rfl rfl) (rKeep.sF0 (f := 43)) rfl rfl rfl rfl rfl), h⟩
            · have h := hF c
              refine z_aload_n hC (pc := 81) 0 dX14_newValue_81 rfl rfl ?_
              refine y_get hC (pc := 82) zf14 rOb_0 48 (v := .ref (κ 1048)) dX14_newValue_82 zw2515 (rv_c rfl) (kk := ?_)
              refine z_aload_n hC (pc := 85) 0 dX14_newValue_85 rfl rfl ?_
              refine y_get hC (pc := 86) zf14 rOb_0 45 (v := iv (rF s22 0 45)) dX14_newValue_86 zw2512 (rv_i (Or.inl rfl) rfl) (kk := ?_)
              have h := h (Ws22.f _ _)
              refine z_iload_n hC (pc := 89) 2 dX14_newValue_89 rfl rfl ?_
              refine y_iadd hC (pc := 90) (v := ((rF s22 0 45) + y23)) dX14_newValue_90 rfl ?_
              refine z_aload_n hC (pc := 91) 0 dX14_newValue_91 rfl rfl ?_
              refine y_get hC (pc := 92) zf14 rOb_0 2 (v := .ref (κ 1002)) dX14_newValue_92 zw2470 (rv_c rfl) (kk := ?_)
              refine z_iload_n hC (pc := 95) 2 dX14_newValue_95 rfl rfl ?_
              obtain ⟨b29, h⟩ := h
              refine y_bald hC (pc := 96) (rAr_m rfl) dX14_newValue_96 b29 (v := (rA s22 1002 y23)) rfl (kk := ?_)
              have h := h (Ws22.a _ _)
              obtain ⟨b30, h⟩ := h
              refine y_bast hC (pc := 97) (rAr_m rfl) dX14_newValue_97 b30 (v := (rA s22 1002 y23)) (kk := ?_)
              have W31 := Ws22.sA (p := 1048) (i := ((rF s22 0 45) + y23)) (x := (inar .byte (rA s22 1002 y23))) (inar_rng _ _)
              refine y_iinc hC (pc := 98) (v := (y23 + 1)) (lv' := [(3, iv (y23 + 1)), (0, .ref (κ 0)), (2, iv x2)]) 2 dX14_newValue_98 rfl rfl (by decide) rfl ?_
              refine z_goto hC (pc := 101) 76 dX14_newValue_101 (by decide) ?_
              refine z_lvs [1, 2, 0] rfl ?_
              obtain ⟨r32, h⟩ := h
              obtain ⟨hI, hm⟩ := h
              exact ih76 (sA s22 1048 ((rF s22 0 45) + y23) (inar .byte (rA s22 1002 y23))) (y23 + 1) W31 r32 (rKeep.tr (rKeep.tr rKeep.rf kJ rfl rfl rfl rfl rfl) (rKeep.sA0 (f := 48) (by decide)) rfl rfl rfl rfl rfl) hI (by omega)
        refine z_lvs [1, 3, 0] rfl ?_
        exact j76 _ (sA (sA (sA (sA σ 1046 (rF σ 0 43) x1) 1051 (rF σ 0 43) 0) 1049 (rF σ 0 43) (rF σ 0 45)) 1050 (rF σ 0 43) x2) 0 W21 (r_lit rfl) (rKeep.tr (rKeep.tr (rKeep.tr (rKeep.tr rKeep.rf (rKeep.sA0 (f := 46) (by decide)) rfl rfl rfl rfl rfl) (rKeep.sA0 (f := 51) (by decide)) rfl rfl rfl rfl rfl) (rKeep.sA0 (f := 49) (by decide)) rfl rfl rfl rfl rfl) (rKeep.sA0 (f := 50) (by decide)) rfl rfl rfl rfl rfl) h (Nat.le_refl _)
      · have h := hF c
        refine z_iconst hC (pc := 29) (v := Int32.ofInt (-1)) dX14_newValue_29 (by decide) ?_
        exact y_reti hR dX14_newValue_30 rfl (r_lit rfl) hwf (Nat.le_of_ble_eq_true rfl) (Nat.le_of_ble_eq_true rfl) ⟨rKeep.rf, h⟩
theorem kX14_newValue (l : Launch) (G : zG) (κ : Nat → Nat) (σ : rS) (x1 : Int) (x2 : Int) (hwf : rWF σ) (hx1 : rng x1) (hx2 : rng x2) (hp : pre_X14_newValue σ x1 x2) : rMi l G κ yX14_newValue cX14_newValue 4 .int 2 20 [.ref (κ 0), iv x1, iv x2] σ (fun x s => rKeep 0x280000000000 0 0xf400000000000 0 0 σ s ∧ post_X14_newValue σ x1 x2 x s) := wX14_newValue l G κ σ x1 x2 hwf hx1 hx2 (post_X14_newValue σ x1 x2) (vX14_newValue σ x1 x2 hwf hx1 hx2 hp) (vX14_newValue_76 σ x1 x2 hwf hx1 hx2 hp) (vX14_newValue_76m σ x1 x2 hwf hx1 hx2 hp)
def pre_X14_truth (σ : rS) (x1 : Int) : Prop := 0 ≤ (rF σ 0 43) ∧ (rF σ 0 43) ≤ 500 ∧ 0 ≤ (rF σ 0 45) ∧ (rF σ 0 45) ≤ 16000 ∧ 0 ≤ (rF σ 0 44) ∧ (rF σ 0 44) ≤ 4000 ∧ 0 ≤ (rF σ 0 60) ∧ (rF σ 0 60) ≤ 40 ∧ 0 ≤ (rF σ 0 3) ∧ (rF σ 0 3) ≤ 4000 ∧ VMp σ ∧ KYp σ ∧ PPp σ ∧ WFp σ
def post_X14_truth (σ : rS) (x1 : Int) (r : Int) (σ' : rS) : Prop := 0 ≤ (rF σ' 0 43) ∧ (rF σ' 0 43) ≤ 500 ∧ 0 ≤ (rF σ' 0 45) ∧ (rF σ' 0 45) ≤ 16000 ∧ 0 ≤ (rF σ' 0 44) ∧ (rF σ' 0 44) ≤ 4000 ∧ 0 ≤ (rF σ' 0 60) ∧ (rF σ' 0 60) ≤ 40 ∧ 0 ≤ (rF σ' 0 3) ∧ (rF σ' 0 3) ≤ 4000 ∧ VMp σ' ∧ KYp σ' ∧ PPp σ' ∧ WFp σ'
def VC_X14_truth (σ : rS) (x1 : Int) (Q : Int → rS → Prop) : Prop := pre_X14_newValue (sF σ 0 0 0) 0 0 ∧ (∀ (x13 : Int) (s12 : rS), rng x13 → rWF s12 → (KYp (sF σ 0 0 0) → KYp s12) → (PPp (sF σ 0 0 0) → PPp s12) → rF s12 0 3 = rF (sF σ 0 0 0) 0 3 → rF s12 0 44 = rF (sF σ 0 0 0) 0 44 → rF s12 0 60 = rF (sF σ 0 0 0) 0 60 → post_X14_newValue (sF σ 0 0 0) 0 0 x13 s12 → ((x13 < 0 → Q x13 s12) ∧ (¬ x13 < 0 → ((x1 = 0 → (0 ≤ x13 ∧ x13 < 500) ∧ Q x13 (sL s12 1047 x13 (0 : Int64))) ∧ (¬ x1 = 0 → (0 ≤ x13 ∧ x13 < 500) ∧ Q x13 (sL s12 1047 x13 (1 : Int64)))))))
set_option maxHeartbeats 400000 in
theorem vX14_truth (σ : rS) (x1 : Int) (hwf : rWF σ) (hx1 : rng x1) (hp : pre_X14_truth σ x1) : VC_X14_truth σ x1 (post_X14_truth σ x1) := by
  simp only [VC_X14_truth, pre_X14_truth, post_X14_truth, pre_X14_newValue, post_X14_newValue, rng, rfk, rNMp, rF_sF, rF_sA, rF_sL, rF_sR, rA_sA, rA_sF, rA_sL, rA_sR, rR_sF, rR_sA, rR_sL, rR_sR, reduceIte, and_true, true_and, and_false, false_and, and_self, VMp_sL, VMp_sF0, VMp_sF3, VMp_sF10, VMp_sF11, VMp_sF12, VMp_sF13, VMp_sF14, VMp_sF16, VMp_sF17, VMp_sF18, VMp_sF19, VMp_sF21, VMp_sF22, VMp_sF23, VMp_sF24, VMp_sF25, VMp_sF28, VMp_sF29, VMp_sF30, VMp_sF31, VMp_sF32, VMp_sF33, VMp_sF38, VMp_sF39, VMp_sF41, VMp_sF42, VMp_sF43, VMp_sF44, VMp_sF45, VMp_sF60, VMp_sF65, VMp_sF66, VMp_sF67, VMp_sF68, VMp_sF70, VMp_sF71, VMp_sF72, VMp_sF73, VMp_sF74, VMp_sF80, VMp_sF81, VMp_sF82, VMp_sF83, VMp_sF88, VMp_sF92, VMp_sF94, VMp_sF96, VMp_sF97, VMp_sF98, VMp_sF99, VMp_sF100, VMp_sF101, VMp_sF103, VMp_sF104, VMp_sF112, VMp_sF113, VMp_sF118, VMp_sF119, VMp_sF122, VMp_sF123, VMp_sF135, VMp_sF137, VMp_sA1, VMp_sA2, VMp_sA5, VMp_sA20, VMp_sA26, VMp_sA27, VMp_sA34, VMp_sA35, VMp_sA36, VMp_sA37, VMp_sA40, VMp_sA47, VMp_sA48, VMp_sA49, VMp_sA50, VMp_sA52, VMp_sA53, VMp_sA54, VMp_sA55, VMp_sA56, VMp_sA57, VMp_sA58, VMp_sA59, VMp_sA61, VMp_sA62, VMp_sA63, VMp_sA64, VMp_sA69, VMp_sA75, VMp_sA76, VMp_sA77, VMp_sA78, VMp_sA79, VMp_sA84, VMp_sA85, VMp_sA86, VMp_sA87, VMp_sA89, VMp_sA90, VMp_sA91, VMp_sA93, VMp_sA102, VMp_sA105, VMp_sA106, VMp_sA107, VMp_sA108, VMp_sA109, VMp_sA110, VMp_sA111, VMp_sA114, VMp_sA115, VMp_sA116, VMp_sA117, VMp_sA120, VMp_sA121, VMp_sA124, VMp_sA125, VMp_sA126, VMp_sA127, VMp_sA128, VMp_sA129, VMp_sA136, VMp_sA138, VMp_gA0, VMp_gA1, VMp_gA2, VMp_gA3, VMp_gA4, VMp_gA5, VMp_gA6, VMp_gA8, VMp_gA10, VMp_gA11, VMp_gA15, VMp_gA16, VMp_gA17, VMp_gA18, VMp_gA19, VMp_gA20, VMp_gA21, VMp_gA22, VMp_gA23, VMp_gA24, VMp_gA25, VMp_gA26, VMp_gA27, VMp_gA29, VMp_gA30, VMp_gA31, VMp_gA33, VMp_gA34, VMp_gA35, VMp_gA36, VMp_gA37, VMp_sF7, VMp_sF9, KYp_sL, KYp_sF0, KYp_sF3, KYp_sF10, KYp_sF11, KYp_sF12, KYp_sF13, KYp_sF14, KYp_sF16, KYp_sF17, KYp_sF18, KYp_sF19, KYp_sF21, KYp_sF22, KYp_sF23, KYp_sF24, KYp_sF25, KYp_sF28, KYp_sF29, KYp_sF30, KYp_sF31, KYp_sF32, KYp_sF33, KYp_sF38, KYp_sF39, KYp_sF41, KYp_sF42, KYp_sF43, KYp_sF44, KYp_sF45, KYp_sF60, KYp_sF65, KYp_sF66, KYp_sF67, KYp_sF68, KYp_sF70, KYp_sF71, KYp_sF72, KYp_sF73, KYp_sF74, KYp_sF80, KYp_sF81, KYp_sF82, KYp_sF83, KYp_sF88, KYp_sF92, KYp_sF94, KYp_sF96, KYp_sF97, KYp_sF98, KYp_sF99, KYp_sF100, KYp_sF101, KYp_sF103, KYp_sF104, KYp_sF112, KYp_sF113, KYp_sF118, KYp_sF119, KYp_sF122, KYp_sF123, KYp_sF135, KYp_sF137, KYp_sA1, KYp_sA2, KYp_sA5, KYp_sA20, KYp_sA26, KYp_sA27, KYp_sA34, KYp_sA35, KYp_sA36, KYp_sA37, KYp_sA40, KYp_sA46, KYp_sA47, KYp_sA48, KYp_sA49, KYp_sA50, KYp_sA51, KYp_sA52, KYp_sA55, KYp_sA56, KYp_sA57, KYp_sA58, KYp_sA59, KYp_sA61, KYp_sA62, KYp_sA63, KYp_sA64, KYp_sA69, KYp_sA75, KYp_sA76, KYp_sA77, KYp_sA78, KYp_sA79, KYp_sA84, KYp_sA85, KYp_sA86, KYp_sA87, KYp_sA89, KYp_sA90, KYp_sA91, KYp_sA93, KYp_sA102, KYp_sA105, KYp_sA106, KYp_sA107, KYp_sA108, KYp_sA109, KYp_sA110, KYp_sA111, KYp_sA114, KYp_sA115, KYp_sA116, KYp_sA117, KYp_sA120, KYp_sA121, KYp_sA124, KYp_sA125, KYp_sA126, KYp_sA127, KYp_sA128, KYp_sA129, KYp_sA136, KYp_sA138, KYp_gA0, KYp_gA1, KYp_gA2, KYp_gA3, KYp_gA4, KYp_gA5, KYp_gA6, KYp_gA8, KYp_gA10, KYp_gA11, KYp_gA15, KYp_gA16, KYp_gA17, KYp_gA18, KYp_gA19, KYp_gA20, KYp_gA21, KYp_gA22, KYp_gA23, KYp_gA24, KYp_gA25, KYp_gA26, KYp_gA27, KYp_gA29, KYp_gA30, KYp_gA31, KYp_gA33, KYp_gA34, KYp_gA35, KYp_gA36, KYp_gA37, KYp_sF7, KYp_sF9, PPp_sL, PPp_sF0, PPp_sF3, PPp_sF10, PPp_sF11, PPp_sF12, PPp_sF13, PPp_sF14, PPp_sF16, PPp_sF17, PPp_sF18, PPp_sF19, PPp_sF21, PPp_sF22, PPp_sF23, PPp_sF24, PPp_sF25, PPp_sF28, PPp_sF29, PPp_sF30, PPp_sF31, PPp_sF32, PPp_sF33, PPp_sF38, PPp_sF39, PPp_sF41, PPp_sF42, PPp_sF43, PPp_sF44, PPp_sF45, PPp_sF60, PPp_sF65, PPp_sF66, PPp_sF67, PPp_sF68, PPp_sF70, PPp_sF71, PPp_sF72, PPp_sF73, PPp_sF74, PPp_sF80, PPp_sF81, PPp_sF82, PPp_sF83, PPp_sF88, PPp_sF92, PPp_sF94, PPp_sF96, PPp_sF97, PPp_sF98, PPp_sF99, PPp_sF100, PPp_sF101, PPp_sF103, PPp_sF104, PPp_sF112, PPp_sF113, PPp_sF118, PPp_sF119, PPp_sF122, PPp_sF123, PPp_sF135, PPp_sF137, PPp_sA1, PPp_sA2, PPp_sA5, PPp_sA20, PPp_sA26, PPp_sA27, PPp_sA34, PPp_sA35, PPp_sA36, PPp_sA37, PPp_sA40, PPp_sA46, PPp_sA47, PPp_sA48, PPp_sA49, PPp_sA50, PPp_sA51, PPp_sA52, PPp_sA53, PPp_sA54, PPp_sA55, PPp_sA58, PPp_sA59, PPp_sA61, PPp_sA62, PPp_sA63, PPp_sA64, PPp_sA69, PPp_sA75, PPp_sA76, PPp_sA77, PPp_sA78, PPp_sA79, PPp_sA84, PPp_sA85, PPp_sA86, PPp_sA87, PPp_sA89, PPp_sA90, PPp_sA91, PPp_sA93, PPp_sA102, PPp_sA105, PPp_sA106, PPp_sA107, PPp_sA108, PPp_sA109, PPp_sA110, PPp_sA111, PPp_sA114, PPp_sA115, PPp_sA116, PPp_sA117, PPp_sA120, PPp_sA121, PPp_sA124, PPp_sA125, PPp_sA126, PPp_sA127, PPp_sA128, PPp_sA129, PPp_sA136, PPp_sA138, PPp_gA0, PPp_gA1, PPp_gA2, PPp_gA3, PPp_gA4, PPp_gA5, PPp_gA6, PPp_gA8, PPp_gA10, PPp_gA11, PPp_gA15, PPp_gA16, PPp_gA17, PPp_gA18, PPp_gA19, PPp_gA20, PPp_gA21, PPp_gA22, PPp_gA23, PPp_gA24, PPp_gA25, PPp_gA26, PPp_gA27, PPp_gA29, PPp_gA30, PPp_gA31, PPp_gA33, PPp_gA34, PPp_gA35, PPp_gA36, PPp_gA37, PPp_sF7, PPp_sF9, WFp_sL, WFp_sF0, WFp_sF3, WFp_sF10, WFp_sF11, WFp_sF12, WFp_sF13, WFp_sF14, WFp_sF16, WFp_sF17, WFp_sF18, WFp_sF19, WFp_sF21, WFp_sF22, WFp_sF23, WFp_sF24, WFp_sF25, WFp_sF28, WFp_sF29, WFp_sF30, WFp_sF31, WFp_sF32, WFp_sF33, WFp_sF38, WFp_sF39, WFp_sF41, WFp_sF42, WFp_sF43, WFp_sF44, WFp_sF45, WFp_sF60, WFp_sF65, WFp_sF66, WFp_sF67, WFp_sF68, WFp_sF70, WFp_sF71, WFp_sF72, WFp_sF73, WFp_sF74, WFp_sF80, WFp_sF81, WFp_sF82, WFp_sF83, WFp_sF88, WFp_sF92, WFp_sF94, WFp_sF96, WFp_sF97, WFp_sF98, WFp_sF99, WFp_sF100, WFp_sF101, WFp_sF103, WFp_sF104, WFp_sF112, WFp_sF113, WFp_sF118, WFp_sF119, WFp_sF122, WFp_sF123, WFp_sF135, WFp_sF137, WFp_sA1, WFp_sA2, WFp_sA5, WFp_sA20, WFp_sA26, WFp_sA27, WFp_sA34, WFp_sA35, WFp_sA36, WFp_sA37, WFp_sA40, WFp_sA46, WFp_sA47, WFp_sA48, WFp_sA51, WFp_sA52, WFp_sA53, WFp_sA54, WFp_sA55, WFp_sA56, WFp_sA57, WFp_sA58, WFp_sA59, WFp_sA61, WFp_sA62, WFp_sA63, WFp_sA64, WFp_sA69, WFp_sA75, WFp_sA76, WFp_sA77, WFp_sA78, WFp_sA79, WFp_sA84, WFp_sA85, WFp_sA86, WFp_sA87, WFp_sA89, WFp_sA90, WFp_sA91, WFp_sA93, WFp_sA102, WFp_sA105, WFp_sA106, WFp_sA107, WFp_sA108, WFp_sA109, WFp_sA110, WFp_sA111, WFp_sA114, WFp_sA115, WFp_sA116, WFp_sA117, WFp_sA120, WFp_sA121, WFp_sA124, WFp_sA125, WFp_sA126, WFp_sA127, WFp_sA128, WFp_sA129, WFp_sA136, WFp_sA138, WFp_gA0, WFp_gA1, WFp_gA2, WFp_gA3, WFp_gA4, WFp_gA5, WFp_gA6, WFp_gA8, WFp_gA10, WFp_gA11, WFp_gA15, WFp_gA16, WFp_gA17, WFp_gA18, WFp_gA19, WFp_gA20, WFp_gA21, WFp_gA22, WFp_gA23, WFp_gA24, WFp_gA25, WFp_gA26, WFp_gA27, WFp_gA29, WFp_gA30, WFp_gA31, WFp_gA33, WFp_gA34, WFp_gA35, WFp_gA36, WFp_gA37, WFp_sF7, WFp_sF9] at *
  (repeat' (first | with_reducible intro _ | with_reducible apply And.intro))
  all_goals (first | assumption | omega | grind (splits := 20) [rNM_sF0])
theorem wX14_truth (l : Launch) (G : zG) (κ : Nat → Nat) (σ : rS) (x1 : Int) (hwf : rWF σ) (hx1 : rng x1) (Q : Int → rS → Prop) (h : VC_X14_truth σ x1 Q) : rMi l G κ yX14_truth cX14_truth 3 .int 3 43 [.ref (κ 0), iv x1] σ (fun x s => rKeep 0x280000000001 0 0xfc00000000000 0 0 σ s ∧ Q x s) := by
  refine zMi.intro (by decide +kernel) (Nat.le_of_ble_eq_true rfl) (fun X hC hR => ?_)
  refine z_aload_n hC (pc := 0) 0 dX14_truth_0 rfl rfl ?_
  refine z_iconst hC (pc := 1) (v := Int32.ofInt 0) dX14_truth_1 (by decide) ?_
  refine y_putI hC (pc := 2) zf14 rOb_0 0 (x := 0) dX14_truth_2 zw2468 (Or.inl rfl) rfl rfl (kk := ?_)
  have W10 := hwf.sF (q := 0) (f := 0) (x := 0) (r_lit rfl)
  refine z_aload_n hC (pc := 5) 0 dX14_truth_5 rfl rfl ?_
  refine z_iconst hC (pc := 6) (v := Int32.ofInt 0) dX14_truth_6 (by decide) ?_
  refine z_iconst hC (pc := 7) (v := Int32.ofInt 0) dX14_truth_7 (by decide) ?_
  obtain ⟨p11, h⟩ := h
  refine y_callVi hC (pc := 8) (As := [iv 0, iv 0]) (kX14_newValue l G κ (sF σ 0 0 0) 0 0 W10 (r_lit rfl) (r_lit rfl) p11) dmX14_newValue zf14 rOb_0 dX14_truth_8 zw2889 rfl rfl (Nat.le_of_ble_eq_true rfl) (Nat.le_of_ble_eq_true rfl) (Nat.le_of_ble_eq_true rfl) (Nat.le_of_ble_eq_true rfl) (Nat.le_of_ble_eq_true rfl) (kk := fun x13 s12 hx13 Ws12 qs12 => ?_)
  have h := h x13 s12 hx13 Ws12 (KYp.keep qs12.1 rfl rfl) (PPp.keep qs12.1 rfl rfl) (qs12.1.F rfl) (qs12.1.F rfl) (qs12.1.F rfl) qs12.2
  refine z_istore_n hC (pc := 11) (lv' := [(2, iv x13), (0, .ref (κ 0)), (1, iv x1)]) dX14_truth_11 rfl (by decide) rfl ?_
  refine z_iload_n hC (pc := 12) 0 dX14_truth_12 rfl rfl ?_
  obtain ⟨hT, hF⟩ := h
  refine y_if_lt hC (pc := 13) 31 hx13 dX14_truth_13 (by decide) (fun c => ?_) (fun c => ?_)
  · have h := hT c
    refine z_iload_n hC (pc := 31) 0 dX14_truth_31 rfl rfl ?_
    exact y_reti hR dX14_truth_32 rfl hx13 Ws12 (Nat.le_of_ble_eq_true rfl) (Nat.le_of_ble_eq_true rfl) ⟨(rKeep.tr (rKeep.tr rKeep.rf (rKeep.sF0 (f := 0)) rfl rfl rfl rfl rfl) qs12.1 rfl rfl rfl rfl rfl), h⟩
  · have h := hF c
    refine z_aload_n hC (pc := 16) 1 dX14_truth_16 rfl rfl ?_
    refine y_get hC (pc := 17) zf14 rOb_0 47 (v := .ref (κ 1047)) dX14_truth_17 zw2514 (rv_c rfl) (kk := ?_)
    refine z_iload_n hC (pc := 20) 0 dX14_truth_20 rfl rfl ?_
    refine z_iload_n hC (pc := 21) 2 dX14_truth_21 rfl rfl ?_
    obtain ⟨hT, hF⟩ := h
    refine y_if_eq hC (pc := 22) 29 hx1 dX14_truth_22 (by decide) (fun c => ?_) (fun c => ?_)
    · have h := hT c
      refine z_lconst hC (pc := 29) (v := (0 : Int64)) dX14_truth_29 (by decide) ?_
      obtain ⟨b14, h⟩ := h
      refine y_last hC (pc := 30) (rAr_m rfl) dX14_truth_30 b14 (v := (0 : Int64)) (kk := ?_)
      have W15 := Ws12.sL (p := 1047) (i := x13) (x := (0 : Int64))
      refine z_iload_n hC (pc := 31) 0 dX14_truth_31 rfl rfl ?_
      exact y_reti hR dX14_truth_32 rfl hx13 W15 (Nat.le_of_ble_eq_true rfl) (Nat.le_of_ble_eq_true rfl) ⟨(rKeep.tr (rKeep.tr (rKeep.tr rKeep.rf (rKeep.sF0 (f := 0)) rfl rfl rfl rfl rfl) qs12.1 rfl rfl rfl rfl rfl) (rKeep.sL0 (f := 47) (i := x13) (x := (0 : Int64)) (by decide)) rfl rfl rfl rfl rfl), h⟩
    · have h := hF c
      refine z_lconst hC (pc := 25) (v := (1 : Int64)) dX14_truth_25 (by decide) ?_
      refine z_goto hC (pc := 26) 30 dX14_truth_26 (by decide) ?_
      obtain ⟨b16, h⟩ := h
      refine y_last hC (pc := 30) (rAr_m rfl) dX14_truth_30 b16 (v := (1 : Int64)) (kk := ?_)
      have W17 := Ws12.sL (p := 1047) (i := x13) (x := (1 : Int64))
      refine z_iload_n hC (pc := 31) 0 dX14_truth_31 rfl rfl ?_
      exact y_reti hR dX14_truth_32 rfl hx13 W17 (Nat.le_of_ble_eq_true rfl) (Nat.le_of_ble_eq_true rfl) ⟨(rKeep.tr (rKeep.tr (rKeep.tr rKeep.rf (rKeep.sF0 (f := 0)) rfl rfl rfl rfl rfl) qs12.1 rfl rfl rfl rfl rfl) (rKeep.sL0 (f := 47) (i := x13) (x := (1 : Int64)) (by decide)) rfl rfl rfl rfl rfl), h⟩
theorem kX14_truth (l : Launch) (G : zG) (κ : Nat → Nat) (σ : rS) (x1 : Int) (hwf : rWF σ) (hx1 : rng x1) (hp : pre_X14_truth σ x1) : rMi l G κ yX14_truth cX14_truth 3 .int 3 43 [.ref (κ 0), iv x1] σ (fun x s => rKeep 0x280000000001 0 0xfc00000000000 0 0 σ s ∧ post_X14_truth σ x1 x s) := wX14_truth l G κ σ x1 hwf hx1 (post_X14_truth σ x1) (vX14_truth σ x1 hwf hx1 hp) 
def pre_X14_number (σ : rS) (x1 : Int64) : Prop := 0 ≤ (rF σ 0 43) ∧ (rF σ 0 43) ≤ 500 ∧ 0 ≤ (rF σ 0 45) ∧ (rF σ 0 45) ≤ 16000 ∧ 0 ≤ (rF σ 0 44) ∧ (rF σ 0 44) ≤ 4000 ∧ 0 ≤ (rF σ 0 60) ∧ (rF σ 0 60) ≤ 40 ∧ 0 ≤ (rF σ 0 3) ∧ (rF σ 0 3) ≤ 4000 ∧ VMp σ ∧ KYp σ ∧ PPp σ ∧ WFp σ
def post_X14_number (σ : rS) (x1 : Int64) (r : Int) (σ' : rS) : Prop := 0 ≤ (rF σ' 0 43) ∧ (rF σ' 0 43) ≤ 500 ∧ 0 ≤ (rF σ' 0 45) ∧ (rF σ' 0 45) ≤ 16000 ∧ 0 ≤ (rF σ' 0 44) ∧ (rF σ' 0 44) ≤ 4000 ∧ 0 ≤ (rF σ' 0 60) ∧ (rF σ' 0 60) ≤ 40 ∧ 0 ≤ (rF σ' 0 3) ∧ (rF σ' 0 3) ≤ 4000 ∧ VMp σ' ∧ KYp σ' ∧ PPp σ' ∧ WFp σ'
def VC_X14_number (σ : rS) (x1 : Int64) (Q : Int → rS → Prop) : Prop := pre_X14_newValue (sF σ 0 0 0) 1 0 ∧ (∀ (x13 : Int) (s12 : rS), rng x13 → rWF s12 → (KYp (sF σ 0 0 0) → KYp s12) → (PPp (sF σ 0 0 0) → PPp s12) → rF s12 0 3 = rF (sF σ 0 0 0) 0 3 → rF s12 0 44 = rF (sF σ 0 0 0) 0 44 → rF s12 0 60 = rF (sF σ 0 0 0) 0 60 → post_X14_newValue (sF σ 0 0 0) 1 0 x13 s12 → ((x13 < 0 → Q x13 s12) ∧ (¬ x13 < 0 → (0 ≤ x13 ∧ x13 < 500) ∧ Q x13 (sL s12 1047 x13 x1))))
set_option maxHeartbeats 400000 in
theorem vX14_number (σ : rS) (x1 : Int64) (hwf : rWF σ) (hp : pre_X14_number σ x1) : VC_X14_number σ x1 (post_X14_number σ x1) := by
  simp only [VC_X14_number, pre_X14_number, post_X14_number, pre_X14_newValue, post_X14_newValue, rng, rfk, rNMp, rF_sF, rF_sA, rF_sL, rF_sR, rA_sA, rA_sF, rA_sL, rA_sR, rR_sF, rR_sA, rR_sL, rR_sR, reduceIte, and_true, true_and, and_false, false_and, and_self, VMp_sL, VMp_sF0, VMp_sF3, VMp_sF10, VMp_sF11, VMp_sF12, VMp_sF13, VMp_sF14, VMp_sF16, VMp_sF17, VMp_sF18, VMp_sF19, VMp_sF21, VMp_sF22, VMp_sF23, VMp_sF24, VMp_sF25, VMp_sF28, VMp_sF29, VMp_sF30, VMp_sF31, VMp_sF32, VMp_sF33, VMp_sF38, VMp_sF39, VMp_sF41, VMp_sF42, VMp_sF43, VMp_sF44, VMp_sF45, VMp_sF60, VMp_sF65, VMp_sF66, VMp_sF67, VMp_sF68, VMp_sF70, VMp_sF71, VMp_sF72, VMp_sF73, VMp_sF74, VMp_sF80, VMp_sF81, VMp_sF82, VMp_sF83, VMp_sF88, VMp_sF92, VMp_sF94, VMp_sF96, VMp_sF97, VMp_sF98, VMp_sF99, VMp_sF100, VMp_sF101, VMp_sF103, VMp_sF104, VMp_sF112, VMp_sF113, VMp_sF118, VMp_sF119, VMp_sF122, VMp_sF123, VMp_sF135, VMp_sF137, VMp_sA1, VMp_sA2, VMp_sA5, VMp_sA20, VMp_sA26, VMp_sA27, VMp_sA34, VMp_sA35, VMp_sA36, VMp_sA37, VMp_sA40, VMp_sA47, VMp_sA48, VMp_sA49, VMp_sA50, VMp_sA52, VMp_sA53, VMp_sA54, VMp_sA55, VMp_sA56, VMp_sA57, VMp_sA58, VMp_sA59, VMp_sA61, VMp_sA62, VMp_sA63, VMp_sA64, VMp_sA69, VMp_sA75, VMp_sA76, VMp_sA77, VMp_sA78, VMp_sA79, VMp_sA84, VMp_sA85, VMp_sA86, VMp_sA87, VMp_sA89, VMp_sA90, VMp_sA91, VMp_sA93, VMp_sA102, VMp_sA105, VMp_sA106, VMp_sA107, VMp_sA108, VMp_sA109, VMp_sA110, VMp_sA111, VMp_sA114, VMp_sA115, VMp_sA116, VMp_sA117, VMp_sA120, VMp_sA121, VMp_sA124, VMp_sA125, VMp_sA126, VMp_sA127, VMp_sA128, VMp_sA129, VMp_sA136, VMp_sA138, VMp_gA0, VMp_gA1, VMp_gA2, VMp_gA3, VMp_gA4, VMp_gA5, VMp_gA6, VMp_gA8, VMp_gA10, VMp_gA11, VMp_gA15, VMp_gA16, VMp_gA17, VMp_gA18, VMp_gA19, VMp_gA20, VMp_gA21, VMp_gA22, VMp_gA23, VMp_gA24, VMp_gA25, VMp_gA26, VMp_gA27, VMp_gA29, VMp_gA30, VMp_gA31, VMp_gA33, VMp_gA34, VMp_gA35, VMp_gA36, VMp_gA37, VMp_sF7, VMp_sF9, KYp_sL, KYp_sF0, KYp_sF3, KYp_sF10, KYp_sF11, KYp_sF12, KYp_sF13, KYp_sF14, KYp_sF16, KYp_sF17, KYp_sF18, KYp_sF19, KYp_sF21, KYp_sF22, KYp_sF23, KYp_sF24, KYp_sF25, KYp_sF28, KYp_sF29, KYp_sF30, KYp_sF31, KYp_sF32, KYp_sF33, KYp_sF38, KYp_sF39, KYp_sF41, KYp_sF42, KYp_sF43, KYp_sF44, KYp_sF45, KYp_sF60, KYp_sF65, KYp_sF66, KYp_sF67, KYp_sF68, KYp_sF70, KYp_sF71, KYp_sF72, KYp_sF73, KYp_sF74, KYp_sF80, KYp_sF81, KYp_sF82, KYp_sF83, KYp_sF88, KYp_sF92, KYp_sF94, KYp_sF96, KYp_sF97, KYp_sF98, KYp_sF99, KYp_sF100, KYp_sF101, KYp_sF103, KYp_sF104, KYp_sF112, KYp_sF113, KYp_sF118, KYp_sF119, KYp_sF122, KYp_sF123, KYp_sF135, KYp_sF137, KYp_sA1, KYp_sA2, KYp_sA5, KYp_sA20, KYp_sA26, KYp_sA27, KYp_sA34, KYp_sA35, KYp_sA36, KYp_sA37, KYp_sA40, KYp_sA46, KYp_sA47, KYp_sA48, KYp_sA49, KYp_sA50, KYp_sA51, KYp_sA52, KYp_sA55, KYp_sA56, KYp_sA57, KYp_sA58, KYp_sA59, KYp_sA61, KYp_sA62, KYp_sA63, KYp_sA64, KYp_sA69, KYp_sA75, KYp_sA76, KYp_sA77, KYp_sA78, KYp_sA79, KYp_sA84, KYp_sA85, KYp_sA86, KYp_sA87, KYp_sA89, KYp_sA90, KYp_sA91, KYp_sA93, KYp_sA102, KYp_sA105, KYp_sA106, KYp_sA107, KYp_sA108, KYp_sA109, KYp_sA110, KYp_sA111, KYp_sA114, KYp_sA115, KYp_sA116, KYp_sA117, KYp_sA120, KYp_sA121, KYp_sA124, KYp_sA125, KYp_sA126, KYp_sA127, KYp_sA128, KYp_sA129, KYp_sA136, KYp_sA138, KYp_gA0, KYp_gA1, KYp_gA2, KYp_gA3, KYp_gA4, KYp_gA5, KYp_gA6, KYp_gA8, KYp_gA10, KYp_gA11, KYp_gA15, KYp_gA16, KYp_gA17, KYp_gA18, KYp_gA19, KYp_gA20, KYp_gA21, KYp_gA22, KYp_gA23, KYp_gA24, KYp_gA25, KYp_gA26, KYp_gA27, KYp_gA29, KYp_gA30, KYp_gA31, KYp_gA33, KYp_gA34, KYp_gA35, KYp_gA36, KYp_gA37, KYp_sF7, KYp_sF9, PPp_sL, PPp_sF0, PPp_sF3, PPp_sF10, PPp_sF11, PPp_sF12, PPp_sF13, PPp_sF14, PPp_sF16, PPp_sF17, PPp_sF18, PPp_sF19, PPp_sF21, PPp_sF22, PPp_sF23, PPp_sF24, PPp_sF25, PPp_sF28, PPp_sF29, PPp_sF30, PPp_sF31, PPp_sF32, PPp_sF33, PPp_sF38, PPp_sF39, PPp_sF41, PPp_sF42, PPp_sF43, PPp_sF44, PPp_sF45, PPp_sF60, PPp_sF65, PPp_sF66, PPp_sF67, PPp_sF68, PPp_sF70, PPp_sF71, PPp_sF72, PPp_sF73, PPp_sF74, PPp_sF80, PPp_sF81, PPp_sF82, PPp_sF83, PPp_sF88, PPp_sF92, PPp_sF94, PPp_sF96, PPp_sF97, PPp_sF98, PPp_sF99, PPp_sF100, PPp_sF101, PPp_sF103, PPp_sF104, PPp_sF112, PPp_sF113, PPp_sF118, PPp_sF119, PPp_sF122, PPp_sF123, PPp_sF135, PPp_sF137, PPp_sA1, PPp_sA2, PPp_sA5, PPp_sA20, PPp_sA26, PPp_sA27, PPp_sA34, PPp_sA35, PPp_sA36, PPp_sA37, PPp_sA40, PPp_sA46, PPp_sA47, PPp_sA48, PPp_sA49, PPp_sA50, PPp_sA51, PPp_sA52, PPp_sA53, PPp_sA54, PPp_sA55, PPp_sA58, PPp_sA59, PPp_sA61, PPp_sA62, PPp_sA63, PPp_sA64, PPp_sA69, PPp_sA75, PPp_sA76, PPp_sA77, PPp_sA78, PPp_sA79, PPp_sA84, PPp_sA85, PPp_sA86, PPp_sA87, PPp_sA89, PPp_sA90, PPp_sA91, PPp_sA93, PPp_sA102, PPp_sA105, PPp_sA106, PPp_sA107, PPp_sA108, PPp_sA109, PPp_sA110, PPp_sA111, PPp_sA114, PPp_sA115, PPp_sA116, PPp_sA117, PPp_sA120, PPp_sA121, PPp_sA124, PPp_sA125, PPp_sA126, PPp_sA127, PPp_sA128, PPp_sA129, PPp_sA136, PPp_sA138, PPp_gA0, PPp_gA1, PPp_gA2, PPp_gA3, PPp_gA4, PPp_gA5, PPp_gA6, PPp_gA8, PPp_gA10, PPp_gA11, PPp_gA15, PPp_gA16, PPp_gA17, PPp_gA18, PPp_gA19, PPp_gA20, PPp_gA21, PPp_gA22, PPp_gA23, PPp_gA24, PPp_gA25, PPp_gA26, PPp_gA27, PPp_gA29, PPp_gA30, PPp_gA31, PPp_gA33, PPp_gA34, PPp_gA35, PPp_gA36, PPp_gA37, PPp_sF7, PPp_sF9, WFp_sL, WFp_sF0, WFp_sF3, WFp_sF10, WFp_sF11, WFp_sF12, WFp_sF13, WFp_sF14, WFp_sF16, WFp_sF17, WFp_sF18, WFp_sF19, WFp_sF21, WFp_sF22, WFp_sF23, WFp_sF24, WFp_sF25, WFp_sF28, WFp_sF29, WFp_sF30, WFp_sF31, WFp_sF32, WFp_sF33, WFp_sF38, WFp_sF39, WFp_sF41, WFp_sF42, WFp_sF43, WFp_sF44, WFp_sF45, WFp_sF60, WFp_sF65, WFp_sF66, WFp_sF67, WFp_sF68, WFp_sF70, WFp_sF71, WFp_sF72, WFp_sF73, WFp_sF74, WFp_sF80, WFp_sF81, WFp_sF82, WFp_sF83, WFp_sF88, WFp_sF92, WFp_sF94, WFp_sF96, WFp_sF97, WFp_sF98, WFp_sF99, WFp_sF100, WFp_sF101, WFp_sF103, WFp_sF104, WFp_sF112, WFp_sF113, WFp_sF118, WFp_sF119, WFp_sF122, WFp_sF123, WFp_sF135, WFp_sF137, WFp_sA1, WFp_sA2, WFp_sA5, WFp_sA20, WFp_sA26, WFp_sA27, WFp_sA34, WFp_sA35, WFp_sA36, WFp_sA37, WFp_sA40, WFp_sA46, WFp_sA47, WFp_sA48, WFp_sA51, WFp_sA52, WFp_sA53, WFp_sA54, WFp_sA55, WFp_sA56, WFp_sA57, WFp_sA58, WFp_sA59, WFp_sA61, WFp_sA62, WFp_sA63, WFp_sA64, WFp_sA69, WFp_sA75, WFp_sA76, WFp_sA77, WFp_sA78, WFp_sA79, WFp_sA84, WFp_sA85, WFp_sA86, WFp_sA87, WFp_sA89, WFp_sA90, WFp_sA91, WFp_sA93, WFp_sA102, WFp_sA105, WFp_sA106, WFp_sA107, WFp_sA108, WFp_sA109, WFp_sA110, WFp_sA111, WFp_sA114, WFp_sA115, WFp_sA116, WFp_sA117, WFp_sA120, WFp_sA121, WFp_sA124, WFp_sA125, WFp_sA126, WFp_sA127, WFp_sA128, WFp_sA129, WFp_sA136, WFp_sA138, WFp_gA0, WFp_gA1, WFp_gA2, WFp_gA3, WFp_gA4, WFp_gA5, WFp_gA6, WFp_gA8, WFp_gA10, WFp_gA11, WFp_gA15, WFp_gA16, WFp_gA17, WFp_gA18, WFp_gA19, WFp_gA20, WFp_gA21, WFp_gA22, WFp_gA23, WFp_gA24, WFp_gA25, WFp_gA26, WFp_gA27, WFp_gA29, WFp_gA30, WFp_gA31, WFp_gA33, WFp_gA34, WFp_gA35, WFp_gA36, WFp_gA37, WFp_sF7, WFp_sF9] at *
  (repeat' (first | with_reducible intro _ | with_reducible apply And.intro))
  all_goals (first | assumption | omega | grind (splits := 20) [rNM_sF0])
theorem wX14_number (l : Launch) (G : zG) (κ : Nat → Nat) (σ : rS) (x1 : Int64) (hwf : rWF σ) (Q : Int → rS → Prop) (h : VC_X14_number σ x1 Q) : rMi l G κ yX14_number cX14_number 4 .int 3 43 [.ref (κ 0), .long x1] σ (fun x s => rKeep 0x280000000001 0 0xfc00000000000 0 0 σ s ∧ Q x s) := by
  refine zMi.intro (by decide +kernel) (Nat.le_of_ble_eq_true rfl) (fun X hC hR => ?_)
  refine z_aload_n hC (pc := 0) 0 dX14_number_0 rfl rfl ?_
  refine z_iconst hC (pc := 1) (v := Int32.ofInt 0) dX14_number_1 (by decide) ?_
  refine y_putI hC (pc := 2) zf14 rOb_0 0 (x := 0) dX14_number_2 zw2468 (Or.inl rfl) rfl rfl (kk := ?_)
  have W10 := hwf.sF (q := 0) (f := 0) (x := 0) (r_lit rfl)
  refine z_aload_n hC (pc := 5) 0 dX14_number_5 rfl rfl ?_
  refine z_iconst hC (pc := 6) (v := Int32.ofInt 1) dX14_number_6 (by decide) ?_
  refine z_iconst hC (pc := 7) (v := Int32.ofInt 0) dX14_number_7 (by decide) ?_
  obtain ⟨p11, h⟩ := h
  refine y_callVi hC (pc := 8) (As := [iv 1, iv 0]) (kX14_newValue l G κ (sF σ 0 0 0) 1 0 W10 (r_lit rfl) (r_lit rfl) p11) dmX14_newValue zf14 rOb_0 dX14_number_8 zw2889 rfl rfl (Nat.le_of_ble_eq_true rfl) (Nat.le_of_ble_eq_true rfl) (Nat.le_of_ble_eq_true rfl) (Nat.le_of_ble_eq_true rfl) (Nat.le_of_ble_eq_true rfl) (kk := fun x13 s12 hx13 Ws12 qs12 => ?_)
  have h := h x13 s12 hx13 Ws12 (KYp.keep qs12.1 rfl rfl) (PPp.keep qs12.1 rfl rfl) (qs12.1.F rfl) (qs12.1.F rfl) (qs12.1.F rfl) qs12.2
  refine z_istore_n hC (pc := 11) (lv' := [(3, iv x13), (0, .ref (κ 0)), (1, .long x1)]) dX14_number_11 rfl (by decide) rfl ?_
  refine z_iload_n hC (pc := 12) 0 dX14_number_12 rfl rfl ?_
  obtain ⟨hT, hF⟩ := h
  refine y_if_lt hC (pc := 13) 23 hx13 dX14_number_13 (by decide) (fun c => ?_) (fun c => ?_)
  · have h := hT c
    refine z_iload_n hC (pc := 23) 0 dX14_number_23 rfl rfl ?_
    exact y_reti hR dX14_number_24 rfl hx13 Ws12 (Nat.le_of_ble_eq_true rfl) (Nat.le_of_ble_eq_true rfl) ⟨(rKeep.tr (rKeep.tr rKeep.rf (rKeep.sF0 (f := 0)) rfl rfl rfl rfl rfl) qs12.1 rfl rfl rfl rfl rfl), h⟩
  · have h := hF c
    refine z_aload_n hC (pc := 16) 1 dX14_number_16 rfl rfl ?_
    refine y_get hC (pc := 17) zf14 rOb_0 47 (v := .ref (κ 1047)) dX14_number_17 zw2514 (rv_c rfl) (kk := ?_)
    refine z_iload_n hC (pc := 20) 0 dX14_number_20 rfl rfl ?_
    refine z_lload_n hC (pc := 21) 2 dX14_number_21 rfl rfl ?_
    obtain ⟨b14, h⟩ := h
    refine y_last hC (pc := 22) (rAr_m rfl) dX14_number_22 b14 (v := x1) (kk := ?_)
    have W15 := Ws12.sL (p := 1047) (i := x13) (x := x1)
    refine z_iload_n hC (pc := 23) 0 dX14_number_23 rfl rfl ?_
    exact y_reti hR dX14_number_24 rfl hx13 W15 (Nat.le_of_ble_eq_true rfl) (Nat.le_of_ble_eq_true rfl) ⟨(rKeep.tr (rKeep.tr (rKeep.tr rKeep.rf (rKeep.sF0 (f := 0)) rfl rfl rfl rfl rfl) qs12.1 rfl rfl rfl rfl rfl) (rKeep.sL0 (f := 47) (i := x13) (x := x1) (by decide)) rfl rfl rfl rfl rfl), h⟩
theorem kX14_number (l : Launch) (G : zG) (κ : Nat → Nat) (σ : rS) (x1 : Int64) (hwf : rWF σ) (hp : pre_X14_number σ x1) : rMi l G κ yX14_number cX14_number 4 .int 3 43 [.ref (κ 0), .long x1] σ (fun x s => rKeep 0x280000000001 0 0xfc00000000000 0 0 σ s ∧ post_X14_number σ x1 x s) := wX14_number l G κ σ x1 hwf (post_X14_number σ x1) (vX14_number σ x1 hwf hp) 
def pre_X14_word (σ : rS)  : Prop := 0 ≤ (rF σ 0 43) ∧ (rF σ 0 43) ≤ 500 ∧ 0 ≤ (rF σ 0 45) ∧ (rF σ 0 45) ≤ 16000 ∧ 0 ≤ (rF σ 0 44) ∧ (rF σ 0 44) ≤ 4000 ∧ 0 ≤ (rF σ 0 60) ∧ (rF σ 0 60) ≤ 40 ∧ 0 ≤ (rF σ 0 3) ∧ (rF σ 0 3) ≤ 4000 ∧ VMp σ ∧ KYp σ ∧ PPp σ ∧ WFp σ
def post_X14_word (σ : rS)  (r : Int) (σ' : rS) : Prop := 0 ≤ (rF σ' 0 43) ∧ (rF σ' 0 43) ≤ 500 ∧ 0 ≤ (rF σ' 0 45) ∧ (rF σ' 0 45) ≤ 16000 ∧ 0 ≤ (rF σ' 0 44) ∧ (rF σ' 0 44) ≤ 4000 ∧ 0 ≤ (rF σ' 0 60) ∧ (rF σ' 0 60) ≤ 40 ∧ 0 ≤ (rF σ' 0 3) ∧ (rF σ' 0 3) ≤ 4000 ∧ VMp σ' ∧ KYp σ' ∧ PPp σ' ∧ WFp σ'
def VC_X14_word (σ : rS) (Q : Int → rS → Prop) : Prop := pre_X14_take (sF σ 0 0 0) ∧ (∀ (s12 : rS), rWF s12 → (VMp (sF σ 0 0 0) → VMp s12) → (KYp (sF σ 0 0 0) → KYp s12) → (PPp (sF σ 0 0 0) → PPp s12) → (WFp (sF σ 0 0 0) → WFp s12) → rF s12 0 43 = rF (sF σ 0 0 0) 0 43 → rF s12 0 44 = rF (sF σ 0 0 0) 0 44 → rF s12 0 45 = rF (sF σ 0 0 0) 0 45 → rF s12 0 60 = rF (sF σ 0 0 0) 0 60 → post_X14_take (sF σ 0 0 0) s12 → (rng (rF s12 0 66) → pre_X14_newValue s12 2 (rF s12 0 66) ∧ (∀ (x16 : Int) (s15 : rS), rng x16 → rWF s15 → (KYp s12 → KYp s15) → (PPp s12 → PPp s15) → rF s15 0 3 = rF s12 0 3 → rF s15 0 44 = rF s12 0 44 → rF s15 0 60 = rF s12 0 60 → rF s15 0 66 = rF s12 0 66 → post_X14_newValue s12 2 (rF s12 0 66) x16 s15 → Q x16 s15)))
set_option maxHeartbeats 400000 in
theorem vX14_word (σ : rS) (hwf : rWF σ) (hp : pre_X14_word σ ) : VC_X14_word σ (post_X14_word σ ) := by
  simp only [VC_X14_word, pre_X14_word, post_X14_word, pre_X14_take, pre_X14_newValue, post_X14_take, post_X14_newValue, rng, rfk, rNMp, rF_sF, rF_sA, rF_sL, rF_sR, rA_sA, rA_sF, rA_sL, rA_sR, rR_sF, rR_sA, rR_sL, rR_sR, reduceIte, and_true, true_and, and_false, false_and, and_self, VMp_sL, VMp_sF0, VMp_sF3, VMp_sF10, VMp_sF11, VMp_sF12, VMp_sF13, VMp_sF14, VMp_sF16, VMp_sF17, VMp_sF18, VMp_sF19, VMp_sF21, VMp_sF22, VMp_sF23, VMp_sF24, VMp_sF25, VMp_sF28, VMp_sF29, VMp_sF30, VMp_sF31, VMp_sF32, VMp_sF33, VMp_sF38, VMp_sF39, VMp_sF41, VMp_sF42, VMp_sF43, VMp_sF44, VMp_sF45, VMp_sF60, VMp_sF65, VMp_sF66, VMp_sF67, VMp_sF68, VMp_sF70, VMp_sF71, VMp_sF72, VMp_sF73, VMp_sF74, VMp_sF80, VMp_sF81, VMp_sF82, VMp_sF83, VMp_sF88, VMp_sF92, VMp_sF94, VMp_sF96, VMp_sF97, VMp_sF98, VMp_sF99, VMp_sF100, VMp_sF101, VMp_sF103, VMp_sF104, VMp_sF112, VMp_sF113, VMp_sF118, VMp_sF119, VMp_sF122, VMp_sF123, VMp_sF135, VMp_sF137, VMp_sA1, VMp_sA2, VMp_sA5, VMp_sA20, VMp_sA26, VMp_sA27, VMp_sA34, VMp_sA35, VMp_sA36, VMp_sA37, VMp_sA40, VMp_sA47, VMp_sA48, VMp_sA49, VMp_sA50, VMp_sA52, VMp_sA53, VMp_sA54, VMp_sA55, VMp_sA56, VMp_sA57, VMp_sA58, VMp_sA59, VMp_sA61, VMp_sA62, VMp_sA63, VMp_sA64, VMp_sA69, VMp_sA75, VMp_sA76, VMp_sA77, VMp_sA78, VMp_sA79, VMp_sA84, VMp_sA85, VMp_sA86, VMp_sA87, VMp_sA89, VMp_sA90, VMp_sA91, VMp_sA93, VMp_sA102, VMp_sA105, VMp_sA106, VMp_sA107, VMp_sA108, VMp_sA109, VMp_sA110, VMp_sA111, VMp_sA114, VMp_sA115, VMp_sA116, VMp_sA117, VMp_sA120, VMp_sA121, VMp_sA124, VMp_sA125, VMp_sA126, VMp_sA127, VMp_sA128, VMp_sA129, VMp_sA136, VMp_sA138, VMp_gA0, VMp_gA1, VMp_gA2, VMp_gA3, VMp_gA4, VMp_gA5, VMp_gA6, VMp_gA8, VMp_gA10, VMp_gA11, VMp_gA15, VMp_gA16, VMp_gA17, VMp_gA18, VMp_gA19, VMp_gA20, VMp_gA21, VMp_gA22, VMp_gA23, VMp_gA24, VMp_gA25, VMp_gA26, VMp_gA27, VMp_gA29, VMp_gA30, VMp_gA31, VMp_gA33, VMp_gA34, VMp_gA35, VMp_gA36, VMp_gA37, VMp_sF7, VMp_sF9, KYp_sL, KYp_sF0, KYp_sF3, KYp_sF10, KYp_sF11, KYp_sF12, KYp_sF13, KYp_sF14, KYp_sF16, KYp_sF17, KYp_sF18, KYp_sF19, KYp_sF21, KYp_sF22, KYp_sF23, KYp_sF24, KYp_sF25, KYp_sF28, KYp_sF29, KYp_sF30, KYp_sF31, KYp_sF32, KYp_sF33, KYp_sF38, KYp_sF39, KYp_sF41, KYp_sF42, KYp_sF43, KYp_sF44, KYp_sF45, KYp_sF60, KYp_sF65, KYp_sF66, KYp_sF67, KYp_sF68, KYp_sF70, KYp_sF71, KYp_sF72, KYp_sF73, KYp_sF74, KYp_sF80, KYp_sF81, KYp_sF82, KYp_sF83, KYp_sF88, KYp_sF92, KYp_sF94, KYp_sF96, KYp_sF97, KYp_sF98, KYp_sF99, KYp_sF100, KYp_sF101, KYp_sF103, KYp_sF104, KYp_sF112, KYp_sF113, KYp_sF118, KYp_sF119, KYp_sF122, KYp_sF123, KYp_sF135, KYp_sF137, KYp_sA1, KYp_sA2, KYp_sA5, KYp_sA20, KYp_sA26, KYp_sA27, KYp_sA34, KYp_sA35, KYp_sA36, KYp_sA37, KYp_sA40, KYp_sA46, KYp_sA47, KYp_sA48, KYp_sA49, KYp_sA50, KYp_sA51, KYp_sA52, KYp_sA55, KYp_sA56, KYp_sA57, KYp_sA58, KYp_sA59, KYp_sA61, KYp_sA62, KYp_sA63, KYp_sA64, KYp_sA69, KYp_sA75, KYp_sA76, KYp_sA77, KYp_sA78, KYp_sA79, KYp_sA84, KYp_sA85, KYp_sA86, KYp_sA87, KYp_sA89, KYp_sA90, KYp_sA91, KYp_sA93, KYp_sA102, KYp_sA105, KYp_sA106, KYp_sA107, KYp_sA108, KYp_sA109, KYp_sA110, KYp_sA111, KYp_sA114, KYp_sA115, KYp_sA116, KYp_sA117, KYp_sA120, KYp_sA121, KYp_sA124, KYp_sA125, KYp_sA126, KYp_sA127, KYp_sA128, KYp_sA129, KYp_sA136, KYp_sA138, KYp_gA0, KYp_gA1, KYp_gA2, KYp_gA3, KYp_gA4, KYp_gA5, KYp_gA6, KYp_gA8, KYp_gA10, KYp_gA11, KYp_gA15, KYp_gA16, KYp_gA17, KYp_gA18, KYp_gA19, KYp_gA20, KYp_gA21, KYp_gA22, KYp_gA23, KYp_gA24, KYp_gA25, KYp_gA26, KYp_gA27, KYp_gA29, KYp_gA30, KYp_gA31, KYp_gA33, KYp_gA34, KYp_gA35, KYp_gA36, KYp_gA37, KYp_sF7, KYp_sF9, PPp_sL, PPp_sF0, PPp_sF3, PPp_sF10, PPp_sF11, PPp_sF12, PPp_sF13, PPp_sF14, PPp_sF16, PPp_sF17, PPp_sF18, PPp_sF19, PPp_sF21, PPp_sF22, PPp_sF23, PPp_sF24, PPp_sF25, PPp_sF28, PPp_sF29, PPp_sF30, PPp_sF31, PPp_sF32, PPp_sF33, PPp_sF38, PPp_sF39, PPp_sF41, PPp_sF42, PPp_sF43, PPp_sF44, PPp_sF45, PPp_sF60, PPp_sF65, PPp_sF66, PPp_sF67, PPp_sF68, PPp_sF70, PPp_sF71, PPp_sF72, PPp_sF73, PPp_sF74, PPp_sF80, PPp_sF81, PPp_sF82, PPp_sF83, PPp_sF88, PPp_sF92, PPp_sF94, PPp_sF96, PPp_sF97, PPp_sF98, PPp_sF99, PPp_sF100, PPp_sF101, PPp_sF103, PPp_sF104, PPp_sF112, PPp_sF113, PPp_sF118, PPp_sF119, PPp_sF122, PPp_sF123, PPp_sF135, PPp_sF137, PPp_sA1, PPp_sA2, PPp_sA5, PPp_sA20, PPp_sA26, PPp_sA27, PPp_sA34, PPp_sA35, PPp_sA36, PPp_sA37, PPp_sA40, PPp_sA46, PPp_sA47, PPp_sA48, PPp_sA49, PPp_sA50, PPp_sA51, PPp_sA52, PPp_sA53, PPp_sA54, PPp_sA55, PPp_sA58, PPp_sA59, PPp_sA61, PPp_sA62, PPp_sA63, PPp_sA64, PPp_sA69, PPp_sA75, PPp_sA76, PPp_sA77, PPp_sA78, PPp_sA79, PPp_sA84, PPp_sA85, PPp_sA86, PPp_sA87, PPp_sA89, PPp_sA90, PPp_sA91, PPp_sA93, PPp_sA102, PPp_sA105, PPp_sA106, PPp_sA107, PPp_sA108, PPp_sA109, PPp_sA110, PPp_sA111, PPp_sA114, PPp_sA115, PPp_sA116, PPp_sA117, PPp_sA120, PPp_sA121, PPp_sA124, PPp_sA125, PPp_sA126, PPp_sA127, PPp_sA128, PPp_sA129, PPp_sA136, PPp_sA138, PPp_gA0, PPp_gA1, PPp_gA2, PPp_gA3, PPp_gA4, PPp_gA5, PPp_gA6, PPp_gA8, PPp_gA10, PPp_gA11, PPp_gA15, PPp_gA16, PPp_gA17, PPp_gA18, PPp_gA19, PPp_gA20, PPp_gA21, PPp_gA22, PPp_gA23, PPp_gA24, PPp_gA25, PPp_gA26, PPp_gA27, PPp_gA29, PPp_gA30, PPp_gA31, PPp_gA33, PPp_gA34, PPp_gA35, PPp_gA36, PPp_gA37, PPp_sF7, PPp_sF9, WFp_sL, WFp_sF0, WFp_sF3, WFp_sF10, WFp_sF11, WFp_sF12, WFp_sF13, WFp_sF14, WFp_sF16, WFp_sF17, WFp_sF18, WFp_sF19, WFp_sF21, WFp_sF22, WFp_sF23, WFp_sF24, WFp_sF25, WFp_sF28, WFp_sF29, WFp_sF30, WFp_sF31, WFp_sF32, WFp_sF33, WFp_sF38, WFp_sF39, WFp_sF41, WFp_sF42, WFp_sF43, WFp_sF44, WFp_sF45, WFp_sF60, WFp_sF65, WFp_sF66, WFp_sF67, WFp_sF68, WFp_sF70, WFp_sF71, WFp_sF72, WFp_sF73, WFp_sF74, WFp_sF80, WFp_sF81, WFp_sF82, WFp_sF83, WFp_sF88, WFp_sF92, WFp_sF94, WFp_sF96, WFp_sF97, WFp_sF98, WFp_sF99, WFp_sF100, WFp_sF101, WFp_sF103, WFp_sF104, WFp_sF112, WFp_sF113, WFp_sF118, WFp_sF119, WFp_sF122, WFp_sF123, WFp_sF135, WFp_sF137, WFp_sA1, WFp_sA2, WFp_sA5, WFp_sA20, WFp_sA26, WFp_sA27, WFp_sA34, WFp_sA35, WFp_sA36, WFp_sA37, WFp_sA40, WFp_sA46, WFp_sA47, WFp_sA48, WFp_sA51, WFp_sA52, WFp_sA53, WFp_sA54, WFp_sA55, WFp_sA56, WFp_sA57, WFp_sA58, WFp_sA59, WFp_sA61, WFp_sA62, WFp_sA63, WFp_sA64, WFp_sA69, WFp_sA75, WFp_sA76, WFp_sA77, WFp_sA78, WFp_sA79, WFp_sA84, WFp_sA85, WFp_sA86, WFp_sA87, WFp_sA89, WFp_sA90, WFp_sA91, WFp_sA93, WFp_sA102, WFp_sA105, WFp_sA106, WFp_sA107, WFp_sA108, WFp_sA109, WFp_sA110, WFp_sA111, WFp_sA114, WFp_sA115, WFp_sA116, WFp_sA117, WFp_sA120, WFp_sA121, WFp_sA124, WFp_sA125, WFp_sA126, WFp_sA127, WFp_sA128, WFp_sA129, WFp_sA136, WFp_sA138, WFp_gA0, WFp_gA1, WFp_gA2, WFp_gA3, WFp_gA4, WFp_gA5, WFp_gA6, WFp_gA8, WFp_gA10, WFp_gA11, WFp_gA15, WFp_gA16, WFp_gA17, WFp_gA18, WFp_gA19, WFp_gA20, WFp_gA21, WFp_gA22, WFp_gA23, WFp_gA24, WFp_gA25, WFp_gA26, WFp_gA27, WFp_gA29, WFp_gA30, WFp_gA31, WFp_gA33, WFp_gA34, WFp_gA35, WFp_gA36, WFp_gA37, WFp_sF7, WFp_sF9] at *
  (repeat' (first | with_reducible intro _ | with_reducible apply And.intro))
  all_goals (first | assumption | omega | grind (splits := 20) [rNM_sF0])
theorem wX14_word (l : Launch) (G : zG) (κ : Nat → Nat) (σ : rS) (hwf : rWF σ) (Q : Int → rS → Prop) (h : VC_X14_word σ Q) : rMi l G κ yX14_word cX14_word 1 .int 3 43 [.ref (κ 0)] σ (fun x s => rKeep 0x40000280000000009 0 0xf400000000000 0 0 σ s ∧ Q x s) := by
  refine zMi.intro (by decide +kernel) (Nat.le_of_ble_eq_true rfl) (fun X hC hR => ?_)
  refine z_aload_n hC (pc := 0) 0 dX14_word_0 rfl rfl ?_
  refine z_iconst hC (pc := 1) (v := Int32.ofInt 0) dX14_word_1 (by decide) ?_
  refine y_putI hC (pc := 2) zf14 rOb_0 0 (x := 0) dX14_word_2 zw2468 (Or.inl rfl) rfl rfl (kk := ?_)
  have W10 := hwf.sF (q := 0) (f := 0) (x := 0) (r_lit rfl)
  refine z_aload_n hC (pc := 5) 0 dX14_word_5 rfl rfl ?_
  obtain ⟨p11, h⟩ := h
  refine y_callVv hC (pc := 6) (As := []) (kX14_take l G κ (sF σ 0 0 0)  W10  p11) dmX14_take zf14 rOb_0 dX14_word_6 zw2905 rfl rfl (Nat.le_of_ble_eq_true rfl) (Nat.le_of_ble_eq_true rfl) (Nat.le_of_ble_eq_true rfl) (Nat.le_of_ble_eq_true rfl) (Nat.le_of_ble_eq_true rfl) (kk := fun s12 Ws12 qs12 => ?_)
  have h := h s12 Ws12 (VMp.keep qs12.1 rfl rfl) (KYp.keep qs12.1 rfl rfl) (PPp.keep qs12.1 rfl rfl) (WFp.keep qs12.1 rfl rfl) (qs12.1.F rfl) (qs12.1.F rfl) (qs12.1.F rfl) (qs12.1.F rfl) qs12.2
  refine z_aload_n hC (pc := 9) 0 dX14_word_9 rfl rfl ?_
  refine z_iconst hC (pc := 10) (v := Int32.ofInt 2) dX14_word_10 (by decide) ?_
  refine z_aload_n hC (pc := 11) 0 dX14_word_11 rfl rfl ?_
  refine y_get hC (pc := 12) zf14 rOb_0 66 (v := iv (rF s12 0 66)) dX14_word_12 zw2533 (rv_i (Or.inl rfl) rfl) (kk := ?_)
  have h := h (Ws12.f _ _)
  obtain ⟨p14, h⟩ := h
  refine y_callVi hC (pc := 15) (As := [iv 2, iv (rF s12 0 66)]) (kX14_newValue l G κ s12 2 (rF s12 0 66) Ws12 (r_lit rfl) (Ws12.f _ _) p14) dmX14_newValue zf14 rOb_0 dX14_word_15 zw2889 rfl rfl (Nat.le_of_ble_eq_true rfl) (Nat.le_of_ble_eq_true rfl) (Nat.le_of_ble_eq_true rfl) (Nat.le_of_ble_eq_true rfl) (Nat.le_of_ble_eq_true rfl) (kk := fun x16 s15 hx16 Ws15 qs15 => ?_)
  have h := h x16 s15 hx16 Ws15 (KYp.keep qs15.1 rfl rfl) (PPp.keep qs15.1 rfl rfl) (qs15.1.F rfl) (qs15.1.F rfl) (qs15.1.F rfl) (qs15.1.F rfl) qs15.2
  exact y_reti hR dX14_word_18 rfl hx16 Ws15 (Nat.le_of_ble_eq_true rfl) (Nat.le_of_ble_eq_true rfl) ⟨(rKeep.tr (rKeep.tr (rKeep.tr rKeep.rf (rKeep.sF0 (f := 0)) rfl rfl rfl rfl rfl) qs12.1 rfl rfl rfl rfl rfl) qs15.1 rfl rfl rfl rfl rfl), h⟩
theorem kX14_word (l : Launch) (G : zG) (κ : Nat → Nat) (σ : rS) (hwf : rWF σ) (hp : pre_X14_word σ ) : rMi l G κ yX14_word cX14_word 1 .int 3 43 [.ref (κ 0)] σ (fun x s => rKeep 0x40000280000000009 0 0xf400000000000 0 0 σ s ∧ post_X14_word σ x s) := wX14_word l G κ σ hwf (post_X14_word σ ) (vX14_word σ hwf hp) 
def pre_X14_bean (σ : rS)  : Prop := 0 ≤ (rF σ 0 43) ∧ (rF σ 0 43) ≤ 500 ∧ 0 ≤ (rF σ 0 45) ∧ (rF σ 0 45) ≤ 16000 ∧ 0 ≤ (rF σ 0 44) ∧ (rF σ 0 44) ≤ 4000 ∧ 0 ≤ (rF σ 0 60) ∧ (rF σ 0 60) ≤ 40 ∧ 0 ≤ (rF σ 0 3) ∧ (rF σ 0 3) ≤ 4000 ∧ VMp σ ∧ KYp σ ∧ PPp σ ∧ WFp σ
def post_X14_bean (σ : rS)  (r : Int) (σ' : rS) : Prop := 0 ≤ (rF σ' 0 43) ∧ (rF σ' 0 43) ≤ 500 ∧ 0 ≤ (rF σ' 0 45) ∧ (rF σ' 0 45) ≤ 16000 ∧ 0 ≤ (rF σ' 0 44) ∧ (rF σ' 0 44) ≤ 4000 ∧ 0 ≤ (rF σ' 0 60) ∧ (rF σ' 0 60) ≤ 40 ∧ 0 ≤ (rF σ' 0 3) ∧ (rF σ' 0 3) ≤ 4000 ∧ VMp σ' ∧ KYp σ' ∧ PPp σ' ∧ WFp σ'
def VC_X14_bean (σ : rS) (Q : Int → rS → Prop) : Prop := pre_X14_take (sF σ 0 0 0) ∧ (∀ (s12 : rS), rWF s12 → (VMp (sF σ 0 0 0) → VMp s12) → (KYp (sF σ 0 0 0) → KYp s12) → (PPp (sF σ 0 0 0) → PPp s12) → (WFp (sF σ 0 0 0) → WFp s12) → rF s12 0 43 = rF (sF σ 0 0 0) 0 43 → rF s12 0 44 = rF (sF σ 0 0 0) 0 44 → rF s12 0 45 = rF (sF σ 0 0 0) 0 45 → rF s12 0 60 = rF (sF σ 0 0 0) 0 60 → post_X14_take (sF σ 0 0 0) s12 → (rng (rF s12 0 66) → pre_X14_newValue s12 5 (rF s12 0 66) ∧ (∀ (x16 : Int) (s15 : rS), rng x16 → rWF s15 → (KYp s12 → KYp s15) → (PPp s12 → PPp s15) → rF s15 0 3 = rF s12 0 3 → rF s15 0 44 = rF s12 0 44 → rF s15 0 60 = rF s12 0 60 → rF s15 0 66 = rF s12 0 66 → post_X14_newValue s12 5 (rF s12 0 66) x16 s15 → Q x16 s15)))
set_option maxHeartbeats 400000 in
theorem vX14_bean (σ : rS) (hwf : rWF σ) (hp : pre_X14_bean σ ) : VC_X14_bean σ (post_X14_bean σ ) := by
  simp only [VC_X14_bean, pre_X14_bean, post_X14_bean, pre_X14_take, pre_X14_newValue, post_X14_take, post_X14_newValue, rng, rfk, rNMp, rF_sF, rF_sA, rF_sL, rF_sR, rA_sA, rA_sF, rA_sL, rA_sR, rR_sF, rR_sA, rR_sL, rR_sR, reduceIte, and_true, true_and, and_false, false_and, and_self, VMp_sL, VMp_sF0, VMp_sF3, VMp_sF10, VMp_sF11, VMp_sF12, VMp_sF13, VMp_sF14, VMp_sF16, VMp_sF17, VMp_sF18, VMp_sF19, VMp_sF21, VMp_sF22, VMp_sF23, VMp_sF24, VMp_sF25, VMp_sF28, VMp_sF29, VMp_sF30, VMp_sF31, VMp_sF32, VMp_sF33, VMp_sF38, VMp_sF39, VMp_sF41, VMp_sF42, VMp_sF43, VMp_sF44, VMp_sF45, VMp_sF60, VMp_sF65, VMp_sF66, VMp_sF67, VMp_sF68, VMp_sF70, VMp_sF71, VMp_sF72, VMp_sF73, VMp_sF74, VMp_sF80, VMp_sF81, VMp_sF82, VMp_sF83, VMp_sF88, VMp_sF92, VMp_sF94, VMp_sF96, VMp_sF97, VMp_sF98, VMp_sF99, VMp_sF100, VMp_sF101, VMp_sF103, VMp_sF104, VMp_sF112, VMp_sF113, VMp_sF118, VMp_sF119, VMp_sF122, VMp_sF123, VMp_sF135, VMp_sF137, VMp_sA1, VMp_sA2, VMp_sA5, VMp_sA20, VMp_sA26, VMp_sA27, VMp_sA34, VMp_sA35, VMp_sA36, VMp_sA37, VMp_sA40, VMp_sA47, VMp_sA48, VMp_sA49, VMp_sA50, VMp_sA52, VMp_sA53, VMp_sA54, VMp_sA55, VMp_sA56, VMp_sA57, VMp_sA58, VMp_sA59, VMp_sA61, VMp_sA62, VMp_sA63, VMp_sA64, VMp_sA69, VMp_sA75, VMp_sA76, VMp_sA77, VMp_sA78, VMp_sA79, VMp_sA84, VMp_sA85, VMp_sA86, VMp_sA87, VMp_sA89, VMp_sA90, VMp_sA91, VMp_sA93, VMp_sA102, VMp_sA105, VMp_sA106, VMp_sA107, VMp_sA108, VMp_sA109, VMp_sA110, VMp_sA111, VMp_sA114, VMp_sA115, VMp_sA116, VMp_sA117, VMp_sA120, VMp_sA121, VMp_sA124, VMp_sA125, VMp_sA126, VMp_sA127, VMp_sA128, VMp_sA129, VMp_sA136, VMp_sA138, VMp_gA0, VMp_gA1, VMp_gA2, VMp_gA3, VMp_gA4, VMp_gA5, VMp_gA6, VMp_gA8, VMp_gA10, VMp_gA11, VMp_gA15, VMp_gA16, VMp_gA17, VMp_gA18, VMp_gA19, VMp_gA20, VMp_gA21, VMp_gA22, VMp_gA23, VMp_gA24, VMp_gA25, VMp_gA26, VMp_gA27, VMp_gA29, VMp_gA30, VMp_gA31, VMp_gA33, VMp_gA34, VMp_gA35, VMp_gA36, VMp_gA37, VMp_sF7, VMp_sF9, KYp_sL, KYp_sF0, KYp_sF3, KYp_sF10, KYp_sF11, KYp_sF12, KYp_sF13, KYp_sF14, KYp_sF16, KYp_sF17, KYp_sF18, KYp_sF19, KYp_sF21, KYp_sF22, KYp_sF23, KYp_sF24, KYp_sF25, KYp_sF28, KYp_sF29, KYp_sF30, KYp_sF31, KYp_sF32, KYp_sF33, KYp_sF38, KYp_sF39, KYp_sF41, KYp_sF42, KYp_sF43, KYp_sF44, KYp_sF45, KYp_sF60, KYp_sF65, KYp_sF66, KYp_sF67, KYp_sF68, KYp_sF70, KYp_sF71, KYp_sF72, KYp_sF73, KYp_sF74, KYp_sF80, KYp_sF81, KYp_sF82, KYp_sF83, KYp_sF88, KYp_sF92, KYp_sF94, KYp_sF96, KYp_sF97, KYp_sF98, KYp_sF99, KYp_sF100, KYp_sF101, KYp_sF103, KYp_sF104, KYp_sF112, KYp_sF113, KYp_sF118, KYp_sF119, KYp_sF122, KYp_sF123, KYp_sF135, KYp_sF137, KYp_sA1, KYp_sA2, KYp_sA5, KYp_sA20, KYp_sA26, KYp_sA27, KYp_sA34, KYp_sA35, KYp_sA36, KYp_sA37, KYp_sA40, KYp_sA46, KYp_sA47, KYp_sA48, KYp_sA49, KYp_sA50, KYp_sA51, KYp_sA52, KYp_sA55, KYp_sA56, KYp_sA57, KYp_sA58, KYp_sA59, KYp_sA61, KYp_sA62, KYp_sA63, KYp_sA64, KYp_sA69, KYp_sA75, KYp_sA76, KYp_sA77, KYp_sA78, KYp_sA79, KYp_sA84, KYp_sA85, KYp_sA86, KYp_sA87, KYp_sA89, KYp_sA90, KYp_sA91, KYp_sA93, KYp_sA102, KYp_sA105, KYp_sA106, KYp_sA107, KYp_sA108, KYp_sA109, KYp_sA110, KYp_sA111, KYp_sA114, KYp_sA115, KYp_sA116, KYp_sA117, KYp_sA120, KYp_sA121, KYp_sA124, KYp_sA125, KYp_sA126, KYp_sA127, KYp_sA128, KYp_sA129, KYp_sA136, KYp_sA138, KYp_gA0, KYp_gA1, KYp_gA2, KYp_gA3, KYp_gA4, KYp_gA5, KYp_gA6, KYp_gA8, KYp_gA10, KYp_gA11, KYp_gA15, KYp_gA16, KYp_gA17, KYp_gA18, KYp_gA19, KYp_gA20, KYp_gA21, KYp_gA22, KYp_gA23, KYp_gA24, KYp_gA25, KYp_gA26, KYp_gA27, KYp_gA29, KYp_gA30, KYp_gA31, KYp_gA33, KYp_gA34, KYp_gA35, KYp_gA36, KYp_gA37, KYp_sF7, KYp_sF9, PPp_sL, PPp_sF0, PPp_sF3, PPp_sF10, PPp_sF11, PPp_sF12, PPp_sF13, PPp_sF14, PPp_sF16, PPp_sF17, PPp_sF18, PPp_sF19, PPp_sF21, PPp_sF22, PPp_sF23, PPp_sF24, PPp_sF25, PPp_sF28, PPp_sF29, PPp_sF30, PPp_sF31, PPp_sF32, PPp_sF33, PPp_sF38, PPp_sF39, PPp_sF41, PPp_sF42, PPp_sF43, PPp_sF44, PPp_sF45, PPp_sF60, PPp_sF65, PPp_sF66, PPp_sF67, PPp_sF68, PPp_sF70, PPp_sF71, PPp_sF72, PPp_sF73, PPp_sF74, PPp_sF80, PPp_sF81, PPp_sF82, PPp_sF83, PPp_sF88, PPp_sF92, PPp_sF94, PPp_sF96, PPp_sF97, PPp_sF98, PPp_sF99, PPp_sF100, PPp_sF101, PPp_sF103, PPp_sF104, PPp_sF112, PPp_sF113, PPp_sF118, PPp_sF119, PPp_sF122, PPp_sF123, PPp_sF135, PPp_sF137, PPp_sA1, PPp_sA2, PPp_sA5, PPp_sA20, PPp_sA26, PPp_sA27, PPp_sA34, PPp_sA35, PPp_sA36, PPp_sA37, PPp_sA40, PPp_sA46, PPp_sA47, PPp_sA48, PPp_sA49, PPp_sA50, PPp_sA51, PPp_sA52, PPp_sA53, PPp_sA54, PPp_sA55, PPp_sA58, PPp_sA59, PPp_sA61, PPp_sA62, PPp_sA63, PPp_sA64, PPp_sA69, PPp_sA75, PPp_sA76, PPp_sA77, PPp_sA78, PPp_sA79, PPp_sA84, PPp_sA85, PPp_sA86, PPp_sA87, PPp_sA89, PPp_sA90, PPp_sA91, PPp_sA93, PPp_sA102, PPp_sA105, PPp_sA106, PPp_sA107, PPp_sA108, PPp_sA109, PPp_sA110, PPp_sA111, PPp_sA114, PPp_sA115, PPp_sA116, PPp_sA117, PPp_sA120, PPp_sA121, PPp_sA124, PPp_sA125, PPp_sA126, PPp_sA127, PPp_sA128, PPp_sA129, PPp_sA136, PPp_sA138, PPp_gA0, PPp_gA1, PPp_gA2, PPp_gA3, PPp_gA4, PPp_gA5, PPp_gA6, PPp_gA8, PPp_gA10, PPp_gA11, PPp_gA15, PPp_gA16, PPp_gA17, PPp_gA18, PPp_gA19, PPp_gA20, PPp_gA21, PPp_gA22, PPp_gA23, PPp_gA24, PPp_gA25, PPp_gA26, PPp_gA27, PPp_gA29, PPp_gA30, PPp_gA31, PPp_gA33, PPp_gA34, PPp_gA35, PPp_gA36, PPp_gA37, PPp_sF7, PPp_sF9, WFp_sL, WFp_sF0, WFp_sF3, WFp_sF10, WFp_sF11, WFp_sF12, WFp_sF13, WFp_sF14, WFp_sF16, WFp_sF17, WFp_sF18, WFp_sF19, WFp_sF21, WFp_sF22, WFp_sF23, WFp_sF24, WFp_sF25, WFp_sF28, WFp_sF29, WFp_sF30, WFp_sF31, WFp_sF32, WFp_sF33, WFp_sF38, WFp_sF39, WFp_sF41, WFp_sF42, WFp_sF43, WFp_sF44, WFp_sF45, WFp_sF60, WFp_sF65, WFp_sF66, WFp_sF67, WFp_sF68, WFp_sF70, WFp_sF71, WFp_sF72, WFp_sF73, WFp_sF74, WFp_sF80, WFp_sF81, WFp_sF82, WFp_sF83, WFp_sF88, WFp_sF92, WFp_sF94, WFp_sF96, WFp_sF97, WFp_sF98, WFp_sF99, WFp_sF100, WFp_sF101, WFp_sF103, WFp_sF104, WFp_sF112, WFp_sF113, WFp_sF118, WFp_sF119, WFp_sF122, WFp_sF123, WFp_sF135, WFp_sF137, WFp_sA1, WFp_sA2, WFp_sA5, WFp_sA20, WFp_sA26, WFp_sA27, WFp_sA34, WFp_sA35, WFp_sA36, WFp_sA37, WFp_sA40, WFp_sA46, WFp_sA47, WFp_sA48, WFp_sA51, WFp_sA52, WFp_sA53, WFp_sA54, WFp_sA55, WFp_sA56, WFp_sA57, WFp_sA58, WFp_sA59, WFp_sA61, WFp_sA62, WFp_sA63, WFp_sA64, WFp_sA69, WFp_sA75, WFp_sA76, WFp_sA77, WFp_sA78, WFp_sA79, WFp_sA84, WFp_sA85, WFp_sA86, WFp_sA87, WFp_sA89, WFp_sA90, WFp_sA91, WFp_sA93, WFp_sA102, WFp_sA105, WFp_sA106, WFp_sA107, WFp_sA108, WFp_sA109, WFp_sA110, WFp_sA111, WFp_sA114, WFp_sA115, WFp_sA116, WFp_sA117, WFp_sA120, WFp_sA121, WFp_sA124, WFp_sA125, WFp_sA126, WFp_sA127, WFp_sA128, WFp_sA129, WFp_sA136, WFp_sA138, WFp_gA0, WFp_gA1, WFp_gA2, WFp_gA3, WFp_gA4, WFp_gA5, WFp_gA6, WFp_gA8, WFp_gA10, WFp_gA11, WFp_gA15, WFp_gA16, WFp_gA17, WFp_gA18, WFp_gA19, WFp_gA20, WFp_gA21, WFp_gA22, WFp_gA23, WFp_gA24, WFp_gA25, WFp_gA26, WFp_gA27, WFp_gA29, WFp_gA30, WFp_gA31, WFp_gA33, WFp_gA34, WFp_gA35, WFp_gA36, WFp_gA37, WFp_sF7, WFp_sF9] at *
  (repeat' (first | with_reducible intro _ | with_reducible apply And.intro))
  all_goals (first | assumption | omega | grind (splits := 20) [rNM_sF0])
theorem wX14_bean (l : Launch) (G : zG) (κ : Nat → Nat) (σ : rS) (hwf : rWF σ) (Q : Int → rS → Prop) (h : VC_X14_bean σ Q) : rMi l G κ yX14_bean cX14_bean 1 .int 3 43 [.ref (κ 0)] σ (fun x s => rKeep 0x40000280000000009 0 0xf400000000000 0 0 σ s ∧ Q x s) := by
  refine zMi.intro (by decide +kernel) (Nat.le_of_ble_eq_true rfl) (fun X hC hR => ?_)
  refine z_aload_n hC (pc := 0) 0 dX14_bean_0 rfl rfl ?_
  refine z_iconst hC (pc := 1) (v := Int32.ofInt 0) dX14_bean_1 (by decide) ?_
  refine y_putI hC (pc := 2) zf14 rOb_0 0 (x := 0) dX14_bean_2 zw2468 (Or.inl rfl) rfl rfl (kk := ?_)
  have W10 := hwf.sF (q := 0) (f := 0) (x := 0) (r_lit rfl)
  refine z_aload_n hC (pc := 5) 0 dX14_bean_5 rfl rfl ?_
  obtain ⟨p11, h⟩ := h
  refine y_callVv hC (pc := 6) (As := []) (kX14_take l G κ (sF σ 0 0 0)  W10  p11) dmX14_take zf14 rOb_0 dX14_bean_6 zw2905 rfl rfl (Nat.le_of_ble_eq_true rfl) (Nat.le_of_ble_eq_true rfl) (Nat.le_of_ble_eq_true rfl) (Nat.le_of_ble_eq_true rfl) (Nat.le_of_ble_eq_true rfl) (kk := fun s12 Ws12 qs12 => ?_)
  have h := h s12 Ws12 (VMp.keep qs12.1 rfl rfl) (KYp.keep qs12.1 rfl rfl) (PPp.keep qs12.1 rfl rfl) (WFp.keep qs12.1 rfl rfl) (qs12.1.F rfl) (qs12.1.F rfl) (qs12.1.F rfl) (qs12.1.F rfl) qs12.2
  refine z_aload_n hC (pc := 9) 0 dX14_bean_9 rfl rfl ?_
  refine z_iconst hC (pc := 10) (v := Int32.ofInt 5) dX14_bean_10 (by decide) ?_
  refine z_aload_n hC (pc := 11) 0 dX14_bean_11 rfl rfl ?_
  refine y_get hC (pc := 12) zf14 rOb_0 66 (v := iv (rF s12 0 66)) dX14_bean_12 zw2533 (rv_i (Or.inl rfl) rfl) (kk := ?_)
  have h := h (Ws12.f _ _)
  obtain ⟨p14, h⟩ := h
  refine y_callVi hC (pc := 15) (As := [iv 5, iv (rF s12 0 66)]) (kX14_newValue l G κ s12 5 (rF s12 0 66) Ws12 (r_lit rfl) (Ws12.f _ _) p14) dmX14_newValue zf14 rOb_0 dX14_bean_15 zw2889 rfl rfl (Nat.le_of_ble_eq_true rfl) (Nat.le_of_ble_eq_true rfl) (Nat.le_of_ble_eq_true rfl) (Nat.le_of_ble_eq_true rfl) (Nat.le_of_ble_eq_true rfl) (kk := fun x16 s15 hx16 Ws15 qs15 => ?_)
  have h := h x16 s15 hx16 Ws15 (KYp.keep qs15.1 rfl rfl) (PPp.keep qs15.1 rfl rfl) (qs15.1.F rfl) (qs15.1.F rfl) (qs15.1.F rfl) (qs15.1.F rfl) qs15.2
  exact y_reti hR dX14_bean_18 rfl hx16 Ws15 (Nat.le_of_ble_eq_true rfl) (Nat.le_of_ble_eq_true rfl) ⟨(rKeep.tr (rKeep.tr (rKeep.tr rKeep.rf (rKeep.sF0 (f := 0)) rfl rfl rfl rfl rfl) qs12.1 rfl rfl rfl rfl rfl) qs15.1 rfl rfl rfl rfl rfl), h⟩
theorem kX14_bean (l : Launch) (G : zG) (κ : Nat → Nat) (σ : rS) (hwf : rWF σ) (hp : pre_X14_bean σ ) : rMi l G κ yX14_bean cX14_bean 1 .int 3 43 [.ref (κ 0)] σ (fun x s => rKeep 0x40000280000000009 0 0xf400000000000 0 0 σ s ∧ post_X14_bean σ x s) := wX14_bean l G κ σ hwf (post_X14_bean σ ) (vX14_bean σ hwf hp) 
def pre_X14_list (σ : rS)  : Prop := 0 ≤ (rF σ 0 43) ∧ (rF σ 0 43) ≤ 500 ∧ 0 ≤ (rF σ 0 45) ∧ (rF σ 0 45) ≤ 16000 ∧ 0 ≤ (rF σ 0 44) ∧ (rF σ 0 44) ≤ 4000 ∧ 0 ≤ (rF σ 0 60) ∧ (rF σ 0 60) ≤ 40 ∧ 0 ≤ (rF σ 0 3) ∧ (rF σ 0 3) ≤ 4000 ∧ VMp σ ∧ KYp σ ∧ PPp σ ∧ WFp σ
def post_X14_list (σ : rS)  (r : Int) (σ' : rS) : Prop := 0 ≤ (rF σ' 0 43) ∧ (rF σ' 0 43) ≤ 500 ∧ 0 ≤ (rF σ' 0 45) ∧ (rF σ' 0 45) ≤ 16000 ∧ 0 ≤ (rF σ' 0 44) ∧ (rF σ' 0 44) ≤ 4000 ∧ 0 ≤ (rF σ' 0 60) ∧ (rF σ' 0 60) ≤ 40 ∧ 0 ≤ (rF σ' 0 3) ∧ (rF σ' 0 3) ≤ 4000 ∧ VMp σ' ∧ KYp σ' ∧ PPp σ' ∧ WFp σ'
def VC_X14_list (σ : rS) (Q : Int → rS → Prop) : Prop := pre_X14_newValue (sF σ 0 0 0) 3 0 ∧ (∀ (x13 : Int) (s12 : rS), rng x13 → rWF s12 → (KYp (sF σ 0 0 0) → KYp s12) → (PPp (sF σ 0 0 0) → PPp s12) → rF s12 0 3 = rF (sF σ 0 0 0) 0 3 → rF s12 0 44 = rF (sF σ 0 0 0) 0 44 → rF s12 0 60 = rF (sF σ 0 0 0) 0 60 → post_X14_newValue (sF σ 0 0 0) 3 0 x13 s12 → Q x13 s12)
set_option maxHeartbeats 400000 in
theorem vX14_list (σ : rS) (hwf : rWF σ) (hp : pre_X14_list σ ) : VC_X14_list σ (post_X14_list σ ) := by
  simp only [VC_X14_list, pre_X14_list, post_X14_list, pre_X14_newValue, post_X14_newValue, rng, rfk, rNMp, rF_sF, rF_sA, rF_sL, rF_sR, rA_sA, rA_sF, rA_sL, rA_sR, rR_sF, rR_sA, rR_sL, rR_sR, reduceIte, and_true, true_and, and_false, false_and, and_self, VMp_sL, VMp_sF0, VMp_sF3, VMp_sF10, VMp_sF11, VMp_sF12, VMp_sF13, VMp_sF14, VMp_sF16, VMp_sF17, VMp_sF18, VMp_sF19, VMp_sF21, VMp_sF22, VMp_sF23, VMp_sF24, VMp_sF25, VMp_sF28, VMp_sF29, VMp_sF30, VMp_sF31, VMp_sF32, VMp_sF33, VMp_sF38, VMp_sF39, VMp_sF41, VMp_sF42, VMp_sF43, VMp_sF44, VMp_sF45, VMp_sF60, VMp_sF65, VMp_sF66, VMp_sF67, VMp_sF68, VMp_sF70, VMp_sF71, VMp_sF72, VMp_sF73, VMp_sF74, VMp_sF80, VMp_sF81, VMp_sF82, VMp_sF83, VMp_sF88, VMp_sF92, VMp_sF94, VMp_sF96, VMp_sF97, VMp_sF98, VMp_sF99, VMp_sF100, VMp_sF101, VMp_sF103, VMp_sF104, VMp_sF112, VMp_sF113, VMp_sF118, VMp_sF119, VMp_sF122, VMp_sF123, VMp_sF135, VMp_sF137, VMp_sA1, VMp_sA2, VMp_sA5, VMp_sA20, VMp_sA26, VMp_sA27, VMp_sA34, VMp_sA35, VMp_sA36, VMp_sA37, VMp_sA40, VMp_sA47, VMp_sA48, VMp_sA49, VMp_sA50, VMp_sA52, VMp_sA53, VMp_sA54, VMp_sA55, VMp_sA56, VMp_sA57, VMp_sA58, VMp_sA59, VMp_sA61, VMp_sA62, VMp_sA63, VMp_sA64, VMp_sA69, VMp_sA75, VMp_sA76, VMp_sA77, VMp_sA78, VMp_sA79, VMp_sA84, VMp_sA85, VMp_sA86, VMp_sA87, VMp_sA89, VMp_sA90, VMp_sA91, VMp_sA93, VMp_sA102, VMp_sA105, VMp_sA106, VMp_sA107, VMp_sA108, VMp_sA109, VMp_sA110, VMp_sA111, VMp_sA114, VMp_sA115, VMp_sA116, VMp_sA117, VMp_sA120, VMp_sA121, VMp_sA124, VMp_sA125, VMp_sA126, VMp_sA127, VMp_sA128, VMp_sA129, VMp_sA136, VMp_sA138, VMp_gA0, VMp_gA1, VMp_gA2, VMp_gA3, VMp_gA4, VMp_gA5, VMp_gA6, VMp_gA8, VMp_gA10, VMp_gA11, VMp_gA15, VMp_gA16, VMp_gA17, VMp_gA18, VMp_gA19, VMp_gA20, VMp_gA21, VMp_gA22, VMp_gA23, VMp_gA24, VMp_gA25, VMp_gA26, VMp_gA27, VMp_gA29, VMp_gA30, VMp_gA31, VMp_gA33, VMp_gA34, VMp_gA35, VMp_gA36, VMp_gA37, VMp_sF7, VMp_sF9, KYp_sL, KYp_sF0, KYp_sF3, KYp_sF10, KYp_sF11, KYp_sF12, KYp_sF13, KYp_sF14, KYp_sF16, KYp_sF17, KYp_sF18, KYp_sF19, KYp_sF21, KYp_sF22, KYp_sF23, KYp_sF24, KYp_sF25, KYp_sF28, KYp_sF29, KYp_sF30, KYp_sF31, KYp_sF32, KYp_sF33, KYp_sF38, KYp_sF39, KYp_sF41, KYp_sF42, KYp_sF43, KYp_sF44, KYp_sF45, KYp_sF60, KYp_sF65, KYp_sF66, KYp_sF67, KYp_sF68, KYp_sF70, KYp_sF71, KYp_sF72, KYp_sF73, KYp_sF74, KYp_sF80, KYp_sF81, KYp_sF82, KYp_sF83, KYp_sF88, KYp_sF92, KYp_sF94, KYp_sF96, KYp_sF97, KYp_sF98, KYp_sF99, KYp_sF100, KYp_sF101, KYp_sF103, KYp_sF104, KYp_sF112, KYp_sF113, KYp_sF118, KYp_sF119, KYp_sF122, KYp_sF123, KYp_sF135, KYp_sF137, KYp_sA1, KYp_sA2, KYp_sA5, KYp_sA20, KYp_sA26, KYp_sA27, KYp_sA34, KYp_sA35, KYp_sA36, KYp_sA37, KYp_sA40, KYp_sA46, KYp_sA47, KYp_sA48, KYp_sA49, KYp_sA50, KYp_sA51, KYp_sA52, KYp_sA55, KYp_sA56, KYp_sA57, KYp_sA58, KYp_sA59, KYp_sA61, KYp_sA62, KYp_sA63, KYp_sA64, KYp_sA69, KYp_sA75, KYp_sA76, KYp_sA77, KYp_sA78, KYp_sA79, KYp_sA84, KYp_sA85, KYp_sA86, KYp_sA87, KYp_sA89, KYp_sA90, KYp_sA91, KYp_sA93, KYp_sA102, KYp_sA105, KYp_sA106, KYp_sA107, KYp_sA108, KYp_sA109, KYp_sA110, KYp_sA111, KYp_sA114, KYp_sA115, KYp_sA116, KYp_sA117, KYp_sA120, KYp_sA121, KYp_sA124, KYp_sA125, KYp_sA126, KYp_sA127, KYp_sA128, KYp_sA129, KYp_sA136, KYp_sA138, KYp_gA0, KYp_gA1, KYp_gA2, KYp_gA3, KYp_gA4, KYp_gA5, KYp_gA6, KYp_gA8, KYp_gA10, KYp_gA11, KYp_gA15, KYp_gA16, KYp_gA17, KYp_gA18, KYp_gA19, KYp_gA20, KYp_gA21, KYp_gA22, KYp_gA23, KYp_gA24, KYp_gA25, KYp_gA26, KYp_gA27, KYp_gA29, KYp_gA30, KYp_gA31, KYp_gA33, KYp_gA34, KYp_gA35, KYp_gA36, KYp_gA37, KYp_sF7, KYp_sF9, PPp_sL, PPp_sF0, PPp_sF3, PPp_sF10, PPp_sF11, PPp_sF12, PPp_sF13, PPp_sF14, PPp_sF16, PPp_sF17, PPp_sF18, PPp_sF19, PPp_sF21, PPp_sF22, PPp_sF23, PPp_sF24, PPp_sF25, PPp_sF28, PPp_sF29, PPp_sF30, PPp_sF31, PPp_sF32, PPp_sF33, PPp_sF38, PPp_sF39, PPp_sF41, PPp_sF42, PPp_sF43, PPp_sF44, PPp_sF45, PPp_sF60, PPp_sF65, PPp_sF66, PPp_sF67, PPp_sF68, PPp_sF70, PPp_sF71, PPp_sF72, PPp_sF73, PPp_sF74, PPp_sF80, PPp_sF81, PPp_sF82, PPp_sF83, PPp_sF88, PPp_sF92, PPp_sF94, PPp_sF96, PPp_sF97, PPp_sF98, PPp_sF99, PPp_sF100, PPp_sF101, PPp_sF103, PPp_sF104, PPp_sF112, PPp_sF113, PPp_sF118, PPp_sF119, PPp_sF122, PPp_sF123, PPp_sF135, PPp_sF137, PPp_sA1, PPp_sA2, PPp_sA5, PPp_sA20, PPp_sA26, PPp_sA27, PPp_sA34, PPp_sA35, PPp_sA36, PPp_sA37, PPp_sA40, PPp_sA46, PPp_sA47, PPp_sA48, PPp_sA49, PPp_sA50, PPp_sA51, PPp_sA52, PPp_sA53, PPp_sA54, PPp_sA55, PPp_sA58, PPp_sA59, PPp_sA61, PPp_sA62, PPp_sA63, PPp_sA64, PPp_sA69, PPp_sA75, PPp_sA76, PPp_sA77, PPp_sA78, PPp_sA79, PPp_sA84, PPp_sA85, PPp_sA86, PPp_sA87, PPp_sA89, PPp_sA90, PPp_sA91, PPp_sA93, PPp_sA102, PPp_sA105, PPp_sA106, PPp_sA107, PPp_sA108, PPp_sA109, PPp_sA110, PPp_sA111, PPp_sA114, PPp_sA115, PPp_sA116, PPp_sA117, PPp_sA120, PPp_sA121, PPp_sA124, PPp_sA125, PPp_sA126, PPp_sA127, PPp_sA128, PPp_sA129, PPp_sA136, PPp_sA138, PPp_gA0, PPp_gA1, PPp_gA2, PPp_gA3, PPp_gA4, PPp_gA5, PPp_gA6, PPp_gA8, PPp_gA10, PPp_gA11, PPp_gA15, PPp_gA16, PPp_gA17, PPp_gA18, PPp_gA19, PPp_gA20, PPp_gA21, PPp_gA22, PPp_gA23, PPp_gA24, PPp_gA25, PPp_gA26, PPp_gA27, PPp_gA29, PPp_gA30, PPp_gA31, PPp_gA33, PPp_gA34, PPp_gA35, PPp_gA36, PPp_gA37, PPp_sF7, PPp_sF9, WFp_sL, WFp_sF0, WFp_sF3, WFp_sF10, WFp_sF11, WFp_sF12, WFp_sF13, WFp_sF14, WFp_sF16, WFp_sF17, WFp_sF18, WFp_sF19, WFp_sF21, WFp_sF22, WFp_sF23, WFp_sF24, WFp_sF25, WFp_sF28, WFp_sF29, WFp_sF30, WFp_sF31, WFp_sF32, WFp_sF33, WFp_sF38, WFp_sF39, WFp_sF41, WFp_sF42, WFp_sF43, WFp_sF44, WFp_sF45, WFp_sF60, WFp_sF65, WFp_sF66, WFp_sF67, WFp_sF68, WFp_sF70, WFp_sF71, WFp_sF72, WFp_sF73, WFp_sF74, WFp_sF80, WFp_sF81, WFp_sF82, WFp_sF83, WFp_sF88, WFp_sF92, WFp_sF94, WFp_sF96, WFp_sF97, WFp_sF98, WFp_sF99, WFp_sF100, WFp_sF101, WFp_sF103, WFp_sF104, WFp_sF112, WFp_sF113, WFp_sF118, WFp_sF119, WFp_sF122, WFp_sF123, WFp_sF135, WFp_sF137, WFp_sA1, WFp_sA2, WFp_sA5, WFp_sA20, WFp_sA26, WFp_sA27, WFp_sA34, WFp_sA35, WFp_sA36, WFp_sA37, WFp_sA40, WFp_sA46, WFp_sA47, WFp_sA48, WFp_sA51, WFp_sA52, WFp_sA53, WFp_sA54, WFp_sA55, WFp_sA56, WFp_sA57, WFp_sA58, WFp_sA59, WFp_sA61, WFp_sA62, WFp_sA63, WFp_sA64, WFp_sA69, WFp_sA75, WFp_sA76, WFp_sA77, WFp_sA78, WFp_sA79, WFp_sA84, WFp_sA85, WFp_sA86, WFp_sA87, WFp_sA89, WFp_sA90, WFp_sA91, WFp_sA93, WFp_sA102, WFp_sA105, WFp_sA106, WFp_sA107, WFp_sA108, WFp_sA109, WFp_sA110, WFp_sA111, WFp_sA114, WFp_sA115, WFp_sA116, WFp_sA117, WFp_sA120, WFp_sA121, WFp_sA124, WFp_sA125, WFp_sA126, WFp_sA127, WFp_sA128, WFp_sA129, WFp_sA136, WFp_sA138, WFp_gA0, WFp_gA1, WFp_gA2, WFp_gA3, WFp_gA4, WFp_gA5, WFp_gA6, WFp_gA8, WFp_gA10, WFp_gA11, WFp_gA15, WFp_gA16, WFp_gA17, WFp_gA18, WFp_gA19, WFp_gA20, WFp_gA21, WFp_gA22, WFp_gA23, WFp_gA24, WFp_gA25, WFp_gA26, WFp_gA27, WFp_gA29, WFp_gA30, WFp_gA31, WFp_gA33, WFp_gA34, WFp_gA35, WFp_gA36, WFp_gA37, WFp_sF7, WFp_sF9] at *
  (repeat' (first | with_reducible intro _ | with_reducible apply And.intro))
  all_goals (first | assumption | omega | grind (splits := 20) [rNM_sF0])
theorem wX14_list (l : Launch) (G : zG) (κ : Nat → Nat) (σ : rS) (hwf : rWF σ) (Q : Int → rS → Prop) (h : VC_X14_list σ Q) : rMi l G κ yX14_list cX14_list 1 .int 3 43 [.ref (κ 0)] σ (fun x s => rKeep 0x280000000001 0 0xf400000000000 0 0 σ s ∧ Q x s) := by
  refine zMi.intro (by decide +kernel) (Nat.le_of_ble_eq_true rfl) (fun X hC hR => ?_)
  refine z_aload_n hC (pc := 0) 0 dX14_list_0 rfl rfl ?_
  refine z_iconst hC (pc := 1) (v := Int32.ofInt 0) dX14_list_1 (by decide) ?_
  refine y_putI hC (pc := 2) zf14 rOb_0 0 (x := 0) dX14_list_2 zw2468 (Or.inl rfl) rfl rfl (kk := ?_)
  have W10 := hwf.sF (q := 0) (f := 0) (x := 0) (r_lit rfl)
  refine z_aload_n hC (pc := 5) 0 dX14_list_5 rfl rfl ?_
  refine z_iconst hC (pc := 6) (v := Int32.ofInt 3) dX14_list_6 (by decide) ?_
  refine z_iconst hC (pc := 7) (v := Int32.ofInt 0) dX14_list_7 (by decide) ?_
  obtain ⟨p11, h⟩ := h
  refine y_callVi hC (pc := 8) (As := [iv 3, iv 0]) (kX14_newValue l G κ (sF σ 0 0 0) 3 0 W10 (r_lit rfl) (r_lit rfl) p11) dmX14_newValue zf14 rOb_0 dX14_list_8 zw2889 rfl rfl (Nat.le_of_ble_eq_true rfl) (Nat.le_of_ble_eq_true rfl) (Nat.le_of_ble_eq_true rfl) (Nat.le_of_ble_eq_true rfl) (Nat.le_of_ble_eq_true rfl) (kk := fun x13 s12 hx13 Ws12 qs12 => ?_)
  have h := h x13 s12 hx13 Ws12 (KYp.keep qs12.1 rfl rfl) (PPp.keep qs12.1 rfl rfl) (qs12.1.F rfl) (qs12.1.F rfl) (qs12.1.F rfl) qs12.2
  exact y_reti hR dX14_list_11 rfl hx13 Ws12 (Nat.le_of_ble_eq_true rfl) (Nat.le_of_ble_eq_true rfl) ⟨(rKeep.tr (rKeep.tr rKeep.rf (rKeep.sF0 (f := 0)) rfl rfl rfl rfl rfl) qs12.1 rfl rfl rfl rfl rfl), h⟩
theorem kX14_list (l : Launch) (G : zG) (κ : Nat → Nat) (σ : rS) (hwf : rWF σ) (hp : pre_X14_list σ ) : rMi l G κ yX14_list cX14_list 1 .int 3 43 [.ref (κ 0)] σ (fun x s => rKeep 0x280000000001 0 0xf400000000000 0 0 σ s ∧ post_X14_list σ x s) := wX14_list l G κ σ hwf (post_X14_list σ ) (vX14_list σ hwf hp) 
def pre_X14_map (σ : rS)  : Prop := 0 ≤ (rF σ 0 43) ∧ (rF σ 0 43) ≤ 500 ∧ 0 ≤ (rF σ 0 45) ∧ (rF σ 0 45) ≤ 16000 ∧ 0 ≤ (rF σ 0 44) ∧ (rF σ 0 44) ≤ 4000 ∧ 0 ≤ (rF σ 0 60) ∧ (rF σ 0 60) ≤ 40 ∧ 0 ≤ (rF σ 0 3) ∧ (rF σ 0 3) ≤ 4000 ∧ VMp σ ∧ KYp σ ∧ PPp σ ∧ WFp σ
def post_X14_map (σ : rS)  (r : Int) (σ' : rS) : Prop := 0 ≤ (rF σ' 0 43) ∧ (rF σ' 0 43) ≤ 500 ∧ 0 ≤ (rF σ' 0 45) ∧ (rF σ' 0 45) ≤ 16000 ∧ 0 ≤ (rF σ' 0 44) ∧ (rF σ' 0 44) ≤ 4000 ∧ 0 ≤ (rF σ' 0 60) ∧ (rF σ' 0 60) ≤ 40 ∧ 0 ≤ (rF σ' 0 3) ∧ (rF σ' 0 3) ≤ 4000 ∧ VMp σ' ∧ KYp σ' ∧ PPp σ' ∧ WFp σ'
def VC_X14_map (σ : rS) (Q : Int → rS → Prop) : Prop := pre_X14_newValue (sF σ 0 0 0) 4 0 ∧ (∀ (x13 : Int) (s12 : rS), rng x13 → rWF s12 → (KYp (sF σ 0 0 0) → KYp s12) → (PPp (sF σ 0 0 0) → PPp s12) → rF s12 0 3 = rF (sF σ 0 0 0) 0 3 → rF s12 0 44 = rF (sF σ 0 0 0) 0 44 → rF s12 0 60 = rF (sF σ 0 0 0) 0 60 → post_X14_newValue (sF σ 0 0 0) 4 0 x13 s12 → Q x13 s12)
set_option maxHeartbeats 400000 in
theorem vX14_map (σ : rS) (hwf : rWF σ) (hp : pre_X14_map σ ) : VC_X14_map σ (post_X14_map σ ) := by
  simp only [VC_X14_map, pre_X14_map, post_X14_map, pre_X14_newValue, post_X14_newValue, rng, rfk, rNMp, rF_sF, rF_sA, rF_sL, rF_sR, rA_sA, rA_sF, rA_sL, rA_sR, rR_sF, rR_sA, rR_sL, rR_sR, reduceIte, and_true, true_and, and_false, false_and, and_self, VMp_sL, VMp_sF0, VMp_sF3, VMp_sF10, VMp_sF11, VMp_sF12, VMp_sF13, VMp_sF14, VMp_sF16, VMp_sF17, VMp_sF18, VMp_sF19, VMp_sF21, VMp_sF22, VMp_sF23, VMp_sF24, VMp_sF25, VMp_sF28, VMp_sF29, VMp_sF30, VMp_sF31, VMp_sF32, VMp_sF33, VMp_sF38, VMp_sF39, VMp_sF41, VMp_sF42, VMp_sF43, VMp_sF44, VMp_sF45, VMp_sF60, VMp_sF65, VMp_sF66, VMp_sF67, VMp_sF68, VMp_sF70, VMp_sF71, VMp_sF72, VMp_sF73, VMp_sF74, VMp_sF80, VMp_sF81, VMp_sF82, VMp_sF83, VMp_sF88, VMp_sF92, VMp_sF94, VMp_sF96, VMp_sF97, VMp_sF98, VMp_sF99, VMp_sF100, VMp_sF101, VMp_sF103, VMp_sF104, VMp_sF112, VMp_sF113, VMp_sF118, VMp_sF119, VMp_sF122, VMp_sF123, VMp_sF135, VMp_sF137, VMp_sA1, VMp_sA2, VMp_sA5, VMp_sA20, VMp_sA26, VMp_sA27, VMp_sA34, VMp_sA35, VMp_sA36, VMp_sA37, VMp_sA40, VMp_sA47, VMp_sA48, VMp_sA49, VMp_sA50, VMp_sA52, VMp_sA53, VMp_sA54, VMp_sA55, VMp_sA56, VMp_sA57, VMp_sA58, VMp_sA59, VMp_sA61, VMp_sA62, VMp_sA63, VMp_sA64, VMp_sA69, VMp_sA75, VMp_sA76, VMp_sA77, VMp_sA78, VMp_sA79, VMp_sA84, VMp_sA85, VMp_sA86, VMp_sA87, VMp_sA89, VMp_sA90, VMp_sA91, VMp_sA93, VMp_sA102, VMp_sA105, VMp_sA106, VMp_sA107, VMp_sA108, VMp_sA109, VMp_sA110, VMp_sA111, VMp_sA114, VMp_sA115, VMp_sA116, VMp_sA117, VMp_sA120, VMp_sA121, VMp_sA124, VMp_sA125, VMp_sA126, VMp_sA127, VMp_sA128, VMp_sA129, VMp_sA136, VMp_sA138, VMp_gA0, VMp_gA1, VMp_gA2, VMp_gA3, VMp_gA4, VMp_gA5, VMp_gA6, VMp_gA8, VMp_gA10, VMp_gA11, VMp_gA15, VMp_gA16, VMp_gA17, VMp_gA18, VMp_gA19, VMp_gA20, VMp_gA21, VMp_gA22, VMp_gA23, VMp_gA24, VMp_gA25, VMp_gA26, VMp_gA27, VMp_gA29, VMp_gA30, VMp_gA31, VMp_gA33, VMp_gA34, VMp_gA35, VMp_gA36, VMp_gA37, VMp_sF7, VMp_sF9, KYp_sL, KYp_sF0, KYp_sF3, KYp_sF10, KYp_sF11, KYp_sF12, KYp_sF13, KYp_sF14, KYp_sF16, KYp_sF17, KYp_sF18, KYp_sF19, KYp_sF21, KYp_sF22, KYp_sF23, KYp_sF24, KYp_sF25, KYp_sF28, KYp_sF29, KYp_sF30, KYp_sF31, KYp_sF32, KYp_sF33, KYp_sF38, KYp_sF39, KYp_sF41, KYp_sF42, KYp_sF43, KYp_sF44, KYp_sF45, KYp_sF60, KYp_sF65, KYp_sF66, KYp_sF67, KYp_sF68, KYp_sF70, KYp_sF71, KYp_sF72, KYp_sF73, KYp_sF74, KYp_sF80, KYp_sF81, KYp_sF82, KYp_sF83, KYp_sF88, KYp_sF92, KYp_sF94, KYp_sF96, KYp_sF97, KYp_sF98, KYp_sF99, KYp_sF100, KYp_sF101, KYp_sF103, KYp_sF104, KYp_sF112, KYp_sF113, KYp_sF118, KYp_sF119, KYp_sF122, KYp_sF123, KYp_sF135, KYp_sF137, KYp_sA1, KYp_sA2, KYp_sA5, KYp_sA20, KYp_sA26, KYp_sA27, KYp_sA34, KYp_sA35, KYp_sA36, KYp_sA37, KYp_sA40, KYp_sA46, KYp_sA47, KYp_sA48, KYp_sA49, KYp_sA50, KYp_sA51, KYp_sA52, KYp_sA55, KYp_sA56, KYp_sA57, KYp_sA58, KYp_sA59, KYp_sA61, KYp_sA62, KYp_sA63, KYp_sA64, KYp_sA69, KYp_sA75, KYp_sA76, KYp_sA77, KYp_sA78, KYp_sA79, KYp_sA84, KYp_sA85, KYp_sA86, KYp_sA87, KYp_sA89, KYp_sA90, KYp_sA91, KYp_sA93, KYp_sA102, KYp_sA105, KYp_sA106, KYp_sA107, KYp_sA108, KYp_sA109, KYp_sA110, KYp_sA111, KYp_sA114, KYp_sA115, KYp_sA116, KYp_sA117, KYp_sA120, KYp_sA121, KYp_sA124, KYp_sA125, KYp_sA126, KYp_sA127, KYp_sA128, KYp_sA129, KYp_sA136, KYp_sA138, KYp_gA0, KYp_gA1, KYp_gA2, KYp_gA3, KYp_gA4, KYp_gA5, KYp_gA6, KYp_gA8, KYp_gA10, KYp_gA11, KYp_gA15, KYp_gA16, KYp_gA17, KYp_gA18, KYp_gA19, KYp_gA20, KYp_gA21, KYp_gA22, KYp_gA23, KYp_gA24, KYp_gA25, KYp_gA26, KYp_gA27, KYp_gA29, KYp_gA30, KYp_gA31, KYp_gA33, KYp_gA34, KYp_gA35, KYp_gA36, KYp_gA37, KYp_sF7, KYp_sF9, PPp_sL, PPp_sF0, PPp_sF3, PPp_sF10, PPp_sF11, PPp_sF12, PPp_sF13, PPp_sF14, PPp_sF16, PPp_sF17, PPp_sF18, PPp_sF19, PPp_sF21, PPp_sF22, PPp_sF23, PPp_sF24, PPp_sF25, PPp_sF28, PPp_sF29, PPp_sF30, PPp_sF31, PPp_sF32, PPp_sF33, PPp_sF38, PPp_sF39, PPp_sF41, PPp_sF42, PPp_sF43, PPp_sF44, PPp_sF45, PPp_sF60, PPp_sF65, PPp_sF66, PPp_sF67, PPp_sF68, PPp_sF70, PPp_sF71, PPp_sF72, PPp_sF73, PPp_sF74, PPp_sF80, PPp_sF81, PPp_sF82, PPp_sF83, PPp_sF88, PPp_sF92, PPp_sF94, PPp_sF96, PPp_sF97, PPp_sF98, PPp_sF99, PPp_sF100, PPp_sF101, PPp_sF103, PPp_sF104, PPp_sF112, PPp_sF113, PPp_sF118, PPp_sF119, PPp_sF122, PPp_sF123, PPp_sF135, PPp_sF137, PPp_sA1, PPp_sA2, PPp_sA5, PPp_sA20, PPp_sA26, PPp_sA27, PPp_sA34, PPp_sA35, PPp_sA36, PPp_sA37, PPp_sA40, PPp_sA46, PPp_sA47, PPp_sA48, PPp_sA49, PPp_sA50, PPp_sA51, PPp_sA52, PPp_sA53, PPp_sA54, PPp_sA55, PPp_sA58, PPp_sA59, PPp_sA61, PPp_sA62, PPp_sA63, PPp_sA64, PPp_sA69, PPp_sA75, PPp_sA76, PPp_sA77, PPp_sA78, PPp_sA79, PPp_sA84, PPp_sA85, PPp_sA86, PPp_sA87, PPp_sA89, PPp_sA90, PPp_sA91, PPp_sA93, PPp_sA102, PPp_sA105, PPp_sA106, PPp_sA107, PPp_sA108, PPp_sA109, PPp_sA110, PPp_sA111, PPp_sA114, PPp_sA115, PPp_sA116, PPp_sA117, PPp_sA120, PPp_sA121, PPp_sA124, PPp_sA125, PPp_sA126, PPp_sA127, PPp_sA128, PPp_sA129, PPp_sA136, PPp_sA138, PPp_gA0, PPp_gA1, PPp_gA2, PPp_gA3, PPp_gA4, PPp_gA5, PPp_gA6, PPp_gA8, PPp_gA10, PPp_gA11, PPp_gA15, PPp_gA16, PPp_gA17, PPp_gA18, PPp_gA19, PPp_gA20, PPp_gA21, PPp_gA22, PPp_gA23, PPp_gA24, PPp_gA25, PPp_gA26, PPp_gA27, PPp_gA29, PPp_gA30, PPp_gA31, PPp_gA33, PPp_gA34, PPp_gA35, PPp_gA36, PPp_gA37, PPp_sF7, PPp_sF9, WFp_sL, WFp_sF0, WFp_sF3, WFp_sF10, WFp_sF11, WFp_sF12, WFp_sF13, WFp_sF14, WFp_sF16, WFp_sF17, WFp_sF18, WFp_sF19, WFp_sF21, WFp_sF22, WFp_sF23, WFp_sF24, WFp_sF25, WFp_sF28, WFp_sF29, WFp_sF30, WFp_sF31, WFp_sF32, WFp_sF33, WFp_sF38, WFp_sF39, WFp_sF41, WFp_sF42, WFp_sF43, WFp_sF44, WFp_sF45, WFp_sF60, WFp_sF65, WFp_sF66, WFp_sF67, WFp_sF68, WFp_sF70, WFp_sF71, WFp_sF72, WFp_sF73, WFp_sF74, WFp_sF80, WFp_sF81, WFp_sF82, WFp_sF83, WFp_sF88, WFp_sF92, WFp_sF94, WFp_sF96, WFp_sF97, WFp_sF98, WFp_sF99, WFp_sF100, WFp_sF101, WFp_sF103, WFp_sF104, WFp_sF112, WFp_sF113, WFp_sF118, WFp_sF119, WFp_sF122, WFp_sF123, WFp_sF135, WFp_sF137, WFp_sA1, WFp_sA2, WFp_sA5, WFp_sA20, WFp_sA26, WFp_sA27, WFp_sA34, WFp_sA35, WFp_sA36, WFp_sA37, WFp_sA40, WFp_sA46, WFp_sA47, WFp_sA48, WFp_sA51, WFp_sA52, WFp_sA53, WFp_sA54, WFp_sA55, WFp_sA56, WFp_sA57, WFp_sA58, WFp_sA59, WFp_sA61, WFp_sA62, WFp_sA63, WFp_sA64, WFp_sA69, WFp_sA75, WFp_sA76, WFp_sA77, WFp_sA78, WFp_sA79, WFp_sA84, WFp_sA85, WFp_sA86, WFp_sA87, WFp_sA89, WFp_sA90, WFp_sA91, WFp_sA93, WFp_sA102, WFp_sA105, WFp_sA106, WFp_sA107, WFp_sA108, WFp_sA109, WFp_sA110, WFp_sA111, WFp_sA114, WFp_sA115, WFp_sA116, WFp_sA117, WFp_sA120, WFp_sA121, WFp_sA124, WFp_sA125, WFp_sA126, WFp_sA127, WFp_sA128, WFp_sA129, WFp_sA136, WFp_sA138, WFp_gA0, WFp_gA1, WFp_gA2, WFp_gA3, WFp_gA4, WFp_gA5, WFp_gA6, WFp_gA8, WFp_gA10, WFp_gA11, WFp_gA15, WFp_gA16, WFp_gA17, WFp_gA18, WFp_gA19, WFp_gA20, WFp_gA21, WFp_gA22, WFp_gA23, WFp_gA24, WFp_gA25, WFp_gA26, WFp_gA27, WFp_gA29, WFp_gA30, WFp_gA31, WFp_gA33, WFp_gA34, WFp_gA35, WFp_gA36, WFp_gA37, WFp_sF7, WFp_sF9] at *
  (repeat' (first | with_reducible intro _ | with_reducible apply And.intro))
  all_goals (first | assumption | omega | grind (splits := 20) [rNM_sF0])
theorem wX14_map (l : Launch) (G : zG) (κ : Nat → Nat) (σ : rS) (hwf : rWF σ) (Q : Int → rS → Prop) (h : VC_X14_map σ Q) : rMi l G κ yX14_map cX14_map 1 .int 3 43 [.ref (κ 0)] σ (fun x s => rKeep 0x280000000001 0 0xf400000000000 0 0 σ s ∧ Q x s) := by
  refine zMi.intro (by decide +kernel) (Nat.le_of_ble_eq_true rfl) (fun X hC hR => ?_)
  refine z_aload_n hC (pc := 0) 0 dX14_map_0 rfl rfl ?_
  refine z_iconst hC (pc := 1) (v := Int32.ofInt 0) dX14_map_1 (by decide) ?_
  refine y_putI hC (pc := 2) zf14 rOb_0 0 (x := 0) dX14_map_2 zw2468 (Or.inl rfl) rfl rfl (kk := ?_)
  have W10 := hwf.sF (q := 0) (f := 0) (x := 0) (r_lit rfl)
  refine z_aload_n hC (pc := 5) 0 dX14_map_5 rfl rfl ?_
  refine z_iconst hC (pc := 6) (v := Int32.ofInt 4) dX14_map_6 (by decide) ?_
  refine z_iconst hC (pc := 7) (v := Int32.ofInt 0) dX14_map_7 (by decide) ?_
  obtain ⟨p11, h⟩ := h
  refine y_callVi hC (pc := 8) (As := [iv 4, iv 0]) (kX14_newValue l G κ (sF σ 0 0 0) 4 0 W10 (r_lit rfl) (r_lit rfl) p11) dmX14_newValue zf14 rOb_0 dX14_map_8 zw2889 rfl rfl (Nat.le_of_ble_eq_true rfl) (Nat.le_of_ble_eq_true rfl) (Nat.le_of_ble_eq_true rfl) (Nat.le_of_ble_eq_true rfl) (Nat.le_of_ble_eq_true rfl) (kk := fun x13 s12 hx13 Ws12 qs12 => ?_)
  have h := h x13 s12 hx13 Ws12 (KYp.keep qs12.1 rfl rfl) (PPp.keep qs12.1 rfl rfl) (qs12.1.F rfl) (qs12.1.F rfl) (qs12.1.F rfl) qs12.2
  exact y_reti hR dX14_map_11 rfl hx13 Ws12 (Nat.le_of_ble_eq_true rfl) (Nat.le_of_ble_eq_true rfl) ⟨(rKeep.tr (rKeep.tr rKeep.rf (rKeep.sF0 (f := 0)) rfl rfl rfl rfl rfl) qs12.1 rfl rfl rfl rfl rfl), h⟩
theorem kX14_map (l : Launch) (G : zG) (κ : Nat → Nat) (σ : rS) (hwf : rWF σ) (hp : pre_X14_map σ ) : rMi l G κ yX14_map cX14_map 1 .int 3 43 [.ref (κ 0)] σ (fun x s => rKeep 0x280000000001 0 0xf400000000000 0 0 σ s ∧ post_X14_map σ x s) := wX14_map l G κ σ hwf (post_X14_map σ ) (vX14_map σ hwf hp) 
def pre_X14_isValue (σ : rS) (x1 : Int) (x2 : Int) : Prop := (rF σ 0 43) ≤ 500
def post_X14_isValue (σ : rS) (x1 : Int) (x2 : Int) (r : Int) : Prop := (r = 0 ∨ r = 1) ∧ (r = 1 → 0 ≤ x1 ∧ x1 < (rF σ 0 43) ∧ (rA σ 1046 (x1)) = x2)
def VC_X14_isValue (σ : rS) (x1 : Int) (x2 : Int) (Q : Int → Prop) : Prop := ((x1 < 0 → Q 0) ∧ (¬ x1 < 0 → (rng (rF σ 0 43) → (((rF σ 0 43) ≤ x1 → Q 0) ∧ (¬ (rF σ 0 43) ≤ x1 → (0 ≤ x1 ∧ x1 < 500) ∧ (rng (rA σ 1046 x1) → ((¬ (rA σ 1046 x1) = x2 → Q 0) ∧ ((rA σ 1046 x1) = x2 → Q 1))))))))
set_option maxHeartbeats 400000 in
theorem vX14_isValue (σ : rS) (x1 : Int) (x2 : Int) (hwf : rWF σ) (hx1 : rng x1) (hx2 : rng x2) (hp : pre_X14_isValue σ x1 x2) : VC_X14_isValue σ x1 x2 (post_X14_isValue σ x1 x2) := by
  simp only [VC_X14_isValue, pre_X14_isValue, post_X14_isValue, rng, rfk, rNMp, rF_sF, rF_sA, rF_sL, rF_sR, rA_sA, rA_sF, rA_sL, rA_sR, rR_sF, rR_sA, rR_sL, rR_sR, reduceIte, and_true, true_and, and_false, false_and, and_self] at *
  (repeat' (first | with_reducible intro _ | with_reducible apply And.intro))
  all_goals (first | assumption | omega | grind (splits := 20) [rNM_sF0])
theorem wX14_isValue (l : Launch) (G : zG) (κ : Nat → Nat) (σ : rS) (x1 : Int) (x2 : Int) (hwf : rWF σ) (hx1 : rng x1) (hx2 : rng x2) (Q : Int → Prop) (h : VC_X14_isValue σ x1 x2 Q) : rMi l G κ yX14_isValue cX14_isValue 3 .boolean 1 0 [.ref (κ 0), iv x1, iv x2] σ (fun x s => s = σ ∧ Q x) := by
  refine zMi.intro (by decide +kernel) (Nat.le_of_ble_eq_true rfl) (fun X hC hR => ?_)
  refine z_iload_n hC (pc := 0) 1 dX14_isValue_0 rfl rfl ?_
  obtain ⟨hT, hF⟩ := h
  refine y_if_lt hC (pc := 1) 26 hx1 dX14_isValue_1 (by decide) (fun c => ?_) (fun c => ?_)
  · have h := hT c
    refine z_iconst hC (pc := 26) (v := Int32.ofInt 0) dX14_isValue_26 (by decide) ?_
    exact y_reti hR dX14_isValue_27 rfl (r_lit rfl) hwf (Nat.le_of_ble_eq_true rfl) (Nat.le_of_ble_eq_true rfl) ⟨rfl, h⟩
  · have h := hF c
    refine z_iload_n hC (pc := 4) 1 dX14_isValue_4 rfl rfl ?_
    refine z_aload_n hC (pc := 5) 0 dX14_isValue_5 rfl rfl ?_
    refine y_get hC (pc := 6) zf14 rOb_0 43 (v := iv (rF σ 0 43)) dX14_isValue_6 zw2510 (rv_i (Or.inl rfl) rfl) (kk := ?_)
    have h := h (hwf.f _ _)
    obtain ⟨hT, hF⟩ := h
    refine y_icmp_ge hC (pc := 9) 26 hx1 (hwf.f _ _) dX14_isValue_9 (by decide) (fun c => ?_) (fun c => ?_)
    · have h := hT c
      refine z_iconst hC (pc := 26) (v := Int32.ofInt 0) dX14_isValue_26 (by decide) ?_
      exact y_reti hR dX14_isValue_27 rfl (r_lit rfl) hwf (Nat.le_of_ble_eq_true rfl) (Nat.le_of_ble_eq_true rfl) ⟨rfl, h⟩
    · have h := hF c
      refine z_aload_n hC (pc := 12) 0 dX14_isValue_12 rfl rfl ?_
      refine y_get hC (pc := 13) zf14 rOb_0 46 (v := .ref (κ 1046)) dX14_isValue_13 zw2513 (rv_c rfl) (kk := ?_)
      refine z_iload_n hC (pc := 16) 1 dX14_isValue_16 rfl rfl ?_
      obtain ⟨b10, h⟩ := h
      refine y_iald hC (pc := 17) (rAr_m rfl) dX14_isValue_17 b10 (v := (rA σ 1046 x1)) rfl (kk := ?_)
      have h := h (hwf.a _ _)
      refine z_iload_n hC (pc := 18) 2 dX14_isValue_18 rfl rfl ?_
      obtain ⟨hT, hF⟩ := h
      refine y_icmp_ne hC (pc := 19) 26 (hwf.a _ _) hx2 dX14_isValue_19 (by decide) (fun c => ?_) (fun c => ?_)
      · have h := hT c
        refine z_iconst hC (pc := 26) (v := Int32.ofInt 0) dX14_isValue_26 (by decide) ?_
        exact y_reti hR dX14_isValue_27 rfl (r_lit rfl) hwf (Nat.le_of_ble_eq_true rfl) (Nat.le_of_ble_eq_true rfl) ⟨rfl, h⟩
      · have h := hF c
        refine z_iconst hC (pc := 22) (v := Int32.ofInt 1) dX14_isValue_22 (by decide) ?_
        refine z_goto hC (pc := 23) 27 dX14_isValue_23 (by decide) ?_
        exact y_reti hR dX14_isValue_27 rfl (r_lit rfl) hwf (Nat.le_of_ble_eq_true rfl) (Nat.le_of_ble_eq_true rfl) ⟨rfl, h⟩
theorem kX14_isValue (l : Launch) (G : zG) (κ : Nat → Nat) (σ : rS) (x1 : Int) (x2 : Int) (hwf : rWF σ) (hx1 : rng x1) (hx2 : rng x2) (hp : pre_X14_isValue σ x1 x2) : rMi l G κ yX14_isValue cX14_isValue 3 .boolean 1 0 [.ref (κ 0), iv x1, iv x2] σ (fun x s => s = σ ∧ post_X14_isValue σ x1 x2 x) := wX14_isValue l G κ σ x1 x2 hwf hx1 hx2 (post_X14_isValue σ x1 x2) (vX14_isValue σ x1 x2 hwf hx1 hx2 hp) 
def pre_X14_mayHave (σ : rS) (x1 : Int) (x2 : Int) : Prop := (rF σ 0 43) ≤ 500
def post_X14_mayHave (σ : rS) (x1 : Int) (x2 : Int) (r : Int) : Prop := (r = 0 ∨ r = 1)
def VC_X14_mayHave (σ : rS) (x1 : Int) (x2 : Int) (Q : Int → Prop) : Prop := ((x2 = (-1) → Q 1) ∧ (¬ x2 = (-1) → ((x2 < 0 → Q 0) ∧ (¬ x2 < 0 → (rng (rF σ 0 43) → (((rF σ 0 43) ≤ x2 → Q 0) ∧ (¬ (rF σ 0 43) ≤ x2 → ((x2 < x1 → Q 1) ∧ (¬ x2 < x1 → (0 ≤ x2 ∧ x2 < 500) ∧ (rng (rA σ 1046 x2) → ((¬ (rA σ 1046 x2) = 5 → Q 0) ∧ ((rA σ 1046 x2) = 5 → Q 1))))))))))))
set_option maxHeartbeats 400000 in
theorem vX14_mayHave (σ : rS) (x1 : Int) (x2 : Int) (hwf : rWF σ) (hx1 : rng x1) (hx2 : rng x2) (hp : pre_X14_mayHave σ x1 x2) : VC_X14_mayHave σ x1 x2 (post_X14_mayHave σ x1 x2) := by
  simp only [VC_X14_mayHave, pre_X14_mayHave, post_X14_mayHave, rng, rfk, rNMp, rF_sF, rF_sA, rF_sL, rF_sR, rA_sA, rA_sF, rA_sL, rA_sR, rR_sF, rR_sA, rR_sL, rR_sR, reduceIte, and_true, true_and, and_false, false_and, and_self] at *
  (repeat' (first | with_reducible intro _ | with_reducible apply And.intro))
  all_goals (first | assumption | omega | grind (splits := 20) [rNM_sF0])
theorem wX14_mayHave (l : Launch) (G : zG) (κ : Nat → Nat) (σ : rS) (x1 : Int) (x2 : Int) (hwf : rWF σ) (hx1 : rng x1) (hx2 : rng x2) (Q : Int → Prop) (h : VC_X14_mayHave σ x1 x2 Q) : rMi l G κ yX14_mayHave cX14_mayHave 3 .boolean 1 0 [.ref (κ 0), iv x1, iv x2] σ (fun x s => s = σ ∧ Q x) := by
  refine zMi.intro (by decide +kernel) (Nat.le_of_ble_eq_true rfl) (fun X hC hR => ?_)
  refine z_iload_n hC (pc := 0) 2 dX14_mayHave_0 rfl rfl ?_
  refine z_iconst hC (pc := 1) (v := Int32.ofInt (-1)) dX14_mayHave_1 (by decide) ?_
  obtain ⟨hT, hF⟩ := h
  refine y_icmp_eq hC (pc := 2) 32 hx2 (r_lit rfl) dX14_mayHave_2 (by decide) (fun c => ?_) (fun c => ?_)
  · have h := hT c
    refine z_iconst hC (pc := 32) (v := Int32.ofInt 1) dX14_mayHave_32 (by decide) ?_
    refine z_goto hC (pc := 33) 37 dX14_mayHave_33 (by decide) ?_
    exact y_reti hR dX14_mayHave_37 rfl (r_lit rfl) hwf (Nat.le_of_ble_eq_true rfl) (Nat.le_of_ble_eq_true rfl) ⟨rfl, h⟩
  · have h := hF c
    refine z_iload_n hC (pc := 5) 2 dX14_mayHave_5 rfl rfl ?_
    obtain ⟨hT, hF⟩ := h
    refine y_if_lt hC (pc := 6) 36 hx2 dX14_mayHave_6 (by decide) (fun c => ?_) (fun c => ?_)
    · have h := hT c
      refine z_iconst hC (pc := 36) (v := Int32.ofInt 0) dX14_mayHave_36 (by decide) ?_
      exact y_reti hR dX14_mayHave_37 rfl (r_lit rfl) hwf (Nat.le_of_ble_eq_true rfl) (Nat.le_of_ble_eq_true rfl) ⟨rfl, h⟩
    · have h := hF c
      refine z_iload_n hC (pc := 9) 2 dX14_mayHave_9 rfl rfl ?_
      refine z_aload_n hC (pc := 10) 0 dX14_mayHave_10 rfl rfl ?_
      refine y_get hC (pc := 11) zf14 rOb_0 43 (v := iv (rF σ 0 43)) dX14_mayHave_11 zw2510 (rv_i (Or.inl rfl) rfl) (kk := ?_)
      have h := h (hwf.f _ _)
      obtain ⟨hT, hF⟩ := h
      refine y_icmp_ge hC (pc := 14) 36 hx2 (hwf.f _ _) dX14_mayHave_14 (by decide) (fun c => ?_) (fun c => ?_)
      · have h := hT c
        refine z_iconst hC (pc := 36) (v := Int32.ofInt 0) dX14_mayHave_36 (by decide) ?_
        exact y_reti hR dX14_mayHave_37 rfl (r_lit rfl) hwf (Nat.le_of_ble_eq_true rfl) (Nat.le_of_ble_eq_true rfl) ⟨rfl, h⟩
      · have h := hF c
        refine z_iload_n hC (pc := 17) 2 dX14_mayHave_17 rfl rfl ?_
        refine z_iload_n hC (pc := 18) 1 dX14_mayHave_18 rfl rfl ?_
        obtain ⟨hT, hF⟩ := h
        refine y_icmp_lt hC (pc := 19) 32 hx2 hx1 dX14_mayHave_19 (by decide) (fun c => ?_) (fun c => ?_)
        · have h := hT c
          refine z_iconst hC (pc := 32) (v := Int32.ofInt 1) dX14_mayHave_32 (by decide) ?_
          refine z_goto hC (pc := 33) 37 dX14_mayHave_33 (by decide) ?_
          exact y_reti hR dX14_mayHave_37 rfl (r_lit rfl) hwf (Nat.le_of_ble_eq_true rfl) (Nat.le_of_ble_eq_true rfl) ⟨rfl, h⟩
        · have h := hF c
          refine z_aload_n hC (pc := 22) 0 dX14_mayHave_22 rfl rfl ?_
          refine y_get hC (pc := 23) zf14 rOb_0 46 (v := .ref (κ 1046)) dX14_mayHave_23 zw2513 (rv_c rfl) (kk := ?_)
          refine z_iload_n hC (pc := 26) 2 dX14_mayHave_26 rfl rfl ?_
          obtain ⟨b10, h⟩ := h
          refine y_iald hC (pc := 27) (rAr_m rfl) dX14_mayHave_27 b10 (v := (rA σ 1046 x2)) rfl (kk := ?_)
          have h := h (hwf.a _ _)
          refine z_iconst hC (pc := 28) (v := Int32.ofInt 5) dX14_mayHave_28 (by decide) ?_
          obtain ⟨hT, hF⟩ := h
          refine y_icmp_ne hC (pc := 29) 36 (hwf.a _ _) (r_lit rfl) dX14_mayHave_29 (by decide) (fun c => ?_) (fun c => ?_)
          · have h := hT c
            refine z_iconst hC (pc := 36) (v := Int32.ofInt 0) dX14_mayHave_36 (by decide) ?_
            exact y_reti hR dX14_mayHave_37 rfl (r_lit rfl) hwf (Nat.le_of_ble_eq_true rfl) (Nat.le_of_ble_eq_true rfl) ⟨rfl, h⟩
          · have h := hF c
            refine z_iconst hC (pc := 32) (v := Int32.ofInt 1) dX14_mayHave_32 (by decide) ?_
            refine z_goto hC (pc := 33) 37 dX14_mayHave_33 (by decide) ?_
            exact y_reti hR dX14_mayHave_37 rfl (r_lit rfl) hwf (Nat.le_of_ble_eq_true rfl) (Nat.le_of_ble_eq_true rfl) ⟨rfl, h⟩
theorem kX14_mayHave (l : Launch) (G : zG) (κ : Nat → Nat) (σ : rS) (x1 : Int) (x2 : Int) (hwf : rWF σ) (hx1 : rng x1) (hx2 : rng x2) (hp : pre_X14_mayHave σ x1 x2) : rMi l G κ yX14_mayHave cX14_mayHave 3 .boolean 1 0 [.ref (κ 0), iv x1, iv x2] σ (fun x s => s = σ ∧ post_X14_mayHave σ x1 x2 x) := wX14_mayHave l G κ σ x1 x2 hwf hx1 hx2 (post_X14_mayHave σ x1 x2) (vX14_mayHave σ x1 x2 hwf hx1 hx2 hp) 
def pre_X14_isTape (σ : rS) (x1 : Int) (x2 : Int) : Prop := 0 ≤ x1 ∧ x1 + x2 ≤ 16000 ∧ 0 ≤ (rF σ 0 66) ∧ (rF σ 0 66) ≤ 4000
def post_X14_isTape (σ : rS) (x1 : Int) (x2 : Int) (r : Int) : Prop := r = 0 ∨ r = 1
def inv_X14_isTape_17 (σ : rS) (x1 : Int) (x2 : Int)  (s : rS) (b : Int) (k : Int) : Prop := 0 ≤ k ∧ (b = 0 ∨ b = 1) ∧ (b = 1 → x2 = (rF σ 0 66)) ∧ (k ≤ x2 ∨ k = 0)
def mu_X14_isTape_17 (σ : rS) (x1 : Int) (x2 : Int) (s : rS) (b : Int) (k : Int) : Nat := (1 + (x2 - k).toNat)
def VC_X14_isTape (σ : rS) (x1 : Int) (x2 : Int) (Q : Int → Prop) : Prop := (rng (rF σ 0 66) → ((¬ x2 = (rF σ 0 66) → (inv_X14_isTape_17 σ x1 x2 σ 0 0)) ∧ (x2 = (rF σ 0 66) → (inv_X14_isTape_17 σ x1 x2 σ 1 0))))
def VC_X14_isTape_17 (σ : rS) (x1 : Int) (x2 : Int) (Q : Int → Prop) : Prop := ∀ (y10 : Int) (y11 : Int), rng y10 → rng y11 → inv_X14_isTape_17 σ x1 x2 σ y10 y11 → (((x2 ≤ y11 → (y10 = 0 ∨ y10 = 1) ∧ Q y10) ∧ (¬ x2 ≤ y11 → ((y10 = 0 → (y10 = 0 ∨ y10 = 1) ∧ Q y10) ∧ (¬ y10 = 0 → (0 ≤ (x1 + y11) ∧ (x1 + y11) < 16000) ∧ (rng (rA σ 1048 (x1 + y11)) → (0 ≤ y11 ∧ y11 < 4000) ∧ (rng (rA σ 1002 y11) → ((¬ (rA σ 1048 (x1 + y11)) = (rA σ 1002 y11) → rng (y11 + 1) ∧ (inv_X14_isTape_17 σ x1 x2 σ 0 (y11 + 1) ∧ (mu_X14_isTape_17 σ x1 x2 σ 0 (y11 + 1)) < (mu_X14_isTape_17 σ x1 x2 σ y10 y11))) ∧ ((rA σ 1048 (x1 + y11)) = (rA σ 1002 y11) → rng (y11 + 1) ∧ (inv_X14_isTape_17 σ x1 x2 σ 1 (y11 + 1) ∧ (mu_X14_isTape_17 σ x1 x2 σ 1 (y11 + 1)) < (mu_X14_isTape_17 σ x1 x2 σ y10 y11)))))))))))
def VC_X14_isTape_17m (σ : rS) (x1 : Int) (x2 : Int) : Prop := ∀ (y10 : Int) (y11 : Int), rng y10 → rng y11 → inv_X14_isTape_17 σ x1 x2 σ y10 y11 → 0 < (mu_X14_isTape_17 σ x1 x2 σ y10 y11)
set_option maxHeartbeats 400000 in
theorem vX14_isTape (σ : rS) (x1 : Int) (x2 : Int) (hwf : rWF σ) (hx1 : rng x1) (hx2 : rng x2) (hp : pre_X14_isTape σ x1 x2) : VC_X14_isTape σ x1 x2 (post_X14_isTape σ x1 x2) := by
  simp only [VC_X14_isTape, pre_X14_isTape, post_X14_isTape, inv_X14_isTape_17, mu_X14_isTape_17, rng, rfk, rNMp, rF_sF, rF_sA, rF_sL, rF_sR, rA_sA, rA_sF, rA_sL, rA_sR, rR_sF, rR_sA, rR_sL, rR_sR, reduceIte, and_true, true_and, and_false, false_and, and_self] at *
  (repeat' (first | with_reducible intro _ | with_reducible apply And.intro))
  all_goals (first | assumption | omega | grind (splits := 20) [rNM_sF0])
set_option maxHeartbeats 400000 in
theorem vX14_isTape_17 (σ : rS) (x1 : Int) (x2 : Int) (hwf : rWF σ) (hx1 : rng x1) (hx2 : rng x2) (hp : pre_X14_isTape σ x1 x2) : VC_X14_isTape_17 σ x1 x2 (post_X14_isTape σ x1 x2) := by
  simp only [VC_X14_isTape_17, pre_X14_isTape, post_X14_isTape, inv_X14_isTape_17, mu_X14_isTape_17, rng, rfk, rNMp, rF_sF, rF_sA, rF_sL, rF_sR, rA_sA, rA_sF, rA_sL, rA_sR, rR_sF, rR_sA, rR_sL, rR_sR, reduceIte, and_true, true_and, and_false, false_and, and_self] at *
  (repeat' (first | with_reducible intro _ | with_reducible apply And.intro))
  all_goals (first | assumption | omega | grind (splits := 20) [rNM_sF0])
set_option maxHeartbeats 400000 in
theorem vX14_isTape_17m (σ : rS) (x1 : Int) (x2 : Int) (hwf : rWF σ) (hx1 : rng x1) (hx2 : rng x2) (hp : pre_X14_isTape σ x1 x2) : VC_X14_isTape_17m σ x1 x2 := by
  simp only [VC_X14_isTape_17m, pre_X14_isTape, post_X14_isTape, inv_X14_isTape_17, mu_X14_isTape_17, rng, rfk, rNMp, rF_sF, rF_sA, rF_sL, rF_sR, rA_sA, rA_sF, rA_sL, rA_sR, rR_sF, rR_sA, rR_sL, rR_sR, reduceIte, and_true, true_and, and_false, false_and, and_self] at *
  (repeat' (first | with_reducible intro _ | with_reducible apply And.intro))
  all_goals (first | assumption | omega | grind (splits := 20) [rNM_sF0])
theorem wX14_isTape (l : Launch) (G : zG) (κ : Nat → Nat) (σ : rS) (x1 : Int) (x2 : Int) (hwf : rWF σ) (hx1 : rng x1) (hx2 : rng x2) (Q : Int → Prop) (h : VC_X14_isTape σ x1 x2 Q) (h_17 : VC_X14_isTape_17 σ x1 x2 Q) (h_17m : VC_X14_isTape_17m σ x1 x2) : rMi l G κ yX14_isTape cX14_isTape 5 .boolean 1 0 [.ref (κ 0), iv x1, iv x2] σ (fun x s => s = σ ∧ Q x) := by
  refine zMi.intro (by decide +kernel) (Nat.le_of_ble_eq_true rfl) (fun X hC hR => ?_)
  refine z_iload_n hC (pc := 0) 2 dX14_isTape_0 rfl rfl ?_
  refine z_aload_n hC (pc := 1) 0 dX14_isTape_1 rfl rfl ?_
  refine y_get hC (pc := 2) zf14 rOb_0 66 (v := iv (rF σ 0 66)) dX14_isTape_2 zw2533 (rv_i (Or.inl rfl) rfl) (kk := ?_)
  have h := h (hwf.f _ _)
  obtain ⟨hT, hF⟩ := h
  refine y_icmp_ne hC (pc := 5) 12 hx2 (hwf.f _ _) dX14_isTape_5 (by decide) (fun c => ?_) (fun c => ?_)
  · have h := hT c
    refine z_iconst hC (pc := 12) (v := Int32.ofInt 0) dX14_isTape_12 (by decide) ?_
    refine z_istore_n hC (pc := 13) (lv' := [(3, iv 0), (0, .ref (κ 0)), (1, iv x1), (2, iv x2)]) dX14_isTape_13 rfl (by decide) rfl ?_
    refine z_iconst hC (pc := 14) (v := Int32.ofInt 0) dX14_isTape_14 (by decide) ?_
    refine z_istore hC (pc := 15) (lv' := [(4, iv 0), (3, iv 0), (0, .ref (κ 0)), (1, iv x1), (2, iv x2)]) dX14_isTape_15 (by decide) rfl ?_
    have j17 : ∀ (d17 : Nat), ∀ (y10 : Int) (y11 : Int), rng y10 → rng y11 → inv_X14_isTape_17 σ x1 x2 σ y10 y11 → (mu_X14_isTape_17 σ x1 x2 σ y10 y11) ≤ d17 → zS X G 5 (rW G κ σ) [(0, .ref (κ 0)), (1, iv x1), (2, iv x2), (3, iv y10), (4, iv y11)] 0 0 17 [] := by
      intro d17
      induction d17 with
      | zero =>
        intro y10 y11 hy10 hy11 hI hmu
        exact absurd hmu (by have := h_17m   y10 y11  hy10 hy11  hI; omega)
      | succ d17 ih17 =>
        intro y10 y11 hy10 hy11 hI hmu17
        have h := h_17   y10 y11  hy10 hy11  hI
        refine z_iload hC (pc := 17) 4 dX14_isTape_17 rfl ?_
        refine z_iload_n hC (pc := 19) 2 dX14_isTape_19 rfl rfl ?_
        obtain ⟨hT, hF⟩ := h
        refine y_icmp_ge hC (pc := 20) 58 hy11 hx2 dX14_isTape_20 (by decide) (fun c => ?_) (fun c => ?_)
        · have h := hT c
          refine z_iload_n hC (pc := 58) 3 dX14_isTape_58 rfl rfl ?_
          obtain ⟨z12, h⟩ := h
          exact y_reti hR dX14_isTape_59 (r_nZ z12) hy10 hwf (Nat.le_of_ble_eq_true rfl) (Nat.le_of_ble_eq_true rfl) ⟨rfl, h⟩
        · have h := hF c
          refine z_iload_n hC (pc := 23) 3 dX14_isTape_23 rfl rfl ?_
          obtain ⟨hT, hF⟩ := h
          refine y_if_eq hC (pc := 24) 58 hy10 dX14_isTape_24 (by decide) (fun c => ?_) (fun c => ?_)
          · have h := hT c
            refine z_iload_n hC (pc := 58) 3 dX14_isTape_58 rfl rfl ?_
            obtain ⟨z13, h⟩ := h
            exact y_reti hR dX14_isTape_59 (r_nZ z13) hy10 hwf (Nat.le_of_ble_eq_true rfl) (Nat.le_of_ble_eq_true rfl) ⟨rfl, h⟩
          · have h := hF c
            refine z_aload_n hC (pc := 27) 0 dX14_isTape_27 rfl rfl ?_
            refine y_get hC (pc := 28) zf14 rOb_0 48 (v := .ref (κ 1048)) dX14_isTape_28 zw2515 (rv_c rfl) (kk := ?_)
            refine z_iload_n hC (pc := 31) 1 dX14_isTape_31 rfl rfl ?_
            refine z_iload hC (pc := 32) 4 dX14_isTape_32 rfl ?_
            refine y_iadd hC (pc := 34) (v := (x1 + y11)) dX14_isTape_34 rfl ?_
            obtain ⟨b14, h⟩ := h
            refine y_bald hC (pc := 35) (rAr_m rfl) dX14_isTape_35 b14 (v := (rA σ 1048 (x1 + y11))) rfl (kk := ?_)
            have h := h (hwf.a _ _)
            refine z_aload_n hC (pc := 36) 0 dX14_isTape_36 rfl rfl ?_
            refine y_get hC (pc := 37) zf14 rOb_0 2 (v := .ref (κ 1002)) dX14_isTape_37 zw2470 (rv_c rfl) (kk := ?_)
            refine z_iload hC (pc := 40) 4 dX14_isTape_40 rfl ?_
            obtain ⟨b15, h⟩ := h
            refine y_bald hC (pc := 42) (rAr_m rfl) dX14_isTape_42 b15 (v := (rA σ 1002 y11)) rfl (kk := ?_)
            have h := h (hwf.a _ _)
            obtain ⟨hT, hF⟩ := h
            refine y_icmp_ne hC (pc := 43) 50 (hwf.a _ _) (hwf.a _ _) dX14_isTape_43 (by decide) (fun c => ?_) (fun c => ?_)
            · have h := hT c
              refine z_iconst hC (pc := 50) (v := Int32.ofInt 0) dX14_isTape_50 (by decide) ?_
              refine z_istore_n hC (pc := 51) (lv' := [(3, iv 0), (0, .ref (κ 0)), (1, iv x1), (2, iv x2), (4, iv y11)]) dX14_isTape_51 rfl (by decide) rfl ?_
              refine y_iinc hC (pc := 52) (v := (y11 + 1)) (lv' := [(4, iv (y11 + 1)), (3, iv 0), (0, .ref (κ 0)), (1, iv x1), (2, iv x2)]) 4 dX14_isTape_52 rfl rfl (by decide) rfl ?_
              refine z_goto hC (pc := 55) 17 dX14_isTape_55 (by decide) ?_
              refine z_lvs [2, 3, 4, 1, 0] rfl ?_
              obtain ⟨r16, h⟩ := h
              obtain ⟨hI, hm⟩ := h
              exact ih17  0 (y11 + 1)  (r_lit rfl) r16  hI (by omega)
            · have h := hF c
              refine z_iconst hC (pc := 46) (v := Int32.ofInt 1) dX14_isTape_46 (by decide) ?_
              refine z_goto hC (pc := 47) 51 dX14_isTape_47 (by decide) ?_
              refine z_istore_n hC (pc := 51) (lv' := [(3, iv 1), (0, .ref (κ 0)), (1, iv x1), (2, iv x2), (4, iv y11)]) dX14_isTape_51 rfl (by decide) rfl ?_
              refine y_iinc hC (pc := 52) (v := (y11 + 1)) (lv' := [(4, iv (y11 + 1)), (3, iv 1), (0, .ref (κ 0)), (1, iv x1), (2, iv x2)]) 4 dX14_isTape_52 rfl rfl (by decide) rfl ?_
              refine z_goto hC (pc := 55) 17 dX14_isTape_55 (by decide) ?_
              refine z_lvs [2, 3, 4, 1, 0] rfl ?_
              obtain ⟨r17, h⟩ := h
              obtain ⟨hI, hm⟩ := h
              exact ih17  1 (y11 + 1)  (r_lit rfl) r17  hI (by omega)
    refine z_lvs [2, 3, 4, 1, 0] rfl ?_
    exact j17 _  0 0  (r_lit rfl) (r_lit rfl)  h (Nat.le_refl _)
  · have h := hF c
    refine z_iconst hC (pc := 8) (v := Int32.ofInt 1) dX14_isTape_8 (by decide) ?_
    refine z_goto hC (pc := 9) 13 dX14_isTape_9 (by decide) ?_
    refine z_istore_n hC (pc := 13) (lv' := [(3, iv 1), (0, .ref (κ 0)), (1, iv x1), (2, iv x2)]) dX14_isTape_13 rfl (by decide) rfl ?_
    refine z_iconst hC (pc := 14) (v := Int32.ofInt 0) dX14_isTape_14 (by decide) ?_
    refine z_istore hC (pc := 15) (lv' := [(4, iv 0), (3, iv 1), (0, .ref (κ 0)), (1, iv x1), (2, iv x2)]) dX14_isTape_15 (by decide) rfl ?_
    have j17 : ∀ (d17 : Nat), ∀ (y18 : Int) (y19 : Int), rng y18 → rng y19 → inv_X14_isTape_17 σ x1 x2 σ y18 y19 → (mu_X14_isTape_17 σ x1 x2 σ y18 y19) ≤ d17 → zS X G 5 (rW G κ σ) [(0, .ref (κ 0)), (1, iv x1), (2, iv x2), (3, iv y18), (4, iv y19)] 0 0 17 [] := by
      intro d17
      induction d17 with
      | zero =>
        intro y18 y19 hy18 hy19 hI hmu
        exact absurd hmu (by have := h_17m   y18 y19  hy18 hy19  hI; omega)
      | succ d17 ih17 =>
        intro y18 y19 hy18 hy19 hI hmu17
        have h := h_17   y18 y19  hy18 hy19  hI
        refine z_iload hC (pc := 17) 4 dX14_isTape_17 rfl ?_
        refine z_iload_n hC (pc := 19) 2 dX14_isTape_19 rfl rfl ?_
        obtain ⟨hT, hF⟩ := h
        refine y_icmp_ge hC (pc := 20) 58 hy19 hx2 dX14_isTape_20 (by decide) (fun c => ?_) (fun c => ?_)
        · have h := hT c
          refine z_iload_n hC (pc := 58) 3 dX14_isTape_58 rfl rfl ?_
          obtain ⟨z20, h⟩ := h
          exact y_reti hR dX14_isTape_59 (r_nZ z20) hy18 hwf (Nat.le_of_ble_eq_true rfl) (Nat.le_of_ble_eq_true rfl) ⟨rfl, h⟩
        · have h := hF c
          refine z_iload_n hC (pc := 23) 3 dX14_isTape_23 rfl rfl ?_
          obtain ⟨hT, hF⟩ := h
          refine y_if_eq hC (pc := 24) 58 hy18 dX14_isTape_24 (by decide) (fun c => ?_) (fun c => ?_)
          · have h := hT c
            refine z_iload_n hC (pc := 58) 3 dX14_isTape_58 rfl rfl ?_
            obtain ⟨z21, h⟩ := h
            exact y_reti hR dX14_isTape_59 (r_nZ z21) hy18 hwf (Nat.le_of_ble_eq_true rfl) (Nat.le_of_ble_eq_true rfl) ⟨rfl, h⟩
          · have h := hF c
            refine z_aload_n hC (pc := 27) 0 dX14_isTape_27 rfl rfl ?_
            refine y_get hC (pc := 28) zf14 rOb_0 48 (v := .ref (κ 1048)) dX14_isTape_28 zw2515 (rv_c rfl) (kk := ?_)
            refine z_iload_n hC (pc := 31) 1 dX14_isTape_31 rfl rfl ?_
            refine z_iload hC (pc := 32) 4 dX14_isTape_32 rfl ?_
            refine y_iadd hC (pc := 34) (v := (x1 + y19)) dX14_isTape_34 rfl ?_
            obtain ⟨b22, h⟩ := h
            refine y_bald hC (pc := 35) (rAr_m rfl) dX14_isTape_35 b22 (v := (rA σ 1048 (x1 + y19))) rfl (kk := ?_)
            have h := h (hwf.a _ _)
            refine z_aload_n hC (pc := 36) 0 dX14_isTape_36 rfl rfl ?_
            refine y_get hC (pc := 37) zf14 rOb_0 2 (v := .ref (κ 1002)) dX14_isTape_37 zw2470 (rv_c rfl) (kk := ?_)
            refine z_iload hC (pc := 40) 4 dX14_isTape_40 rfl ?_
            obtain ⟨b23, h⟩ := h
            refine y_bald hC (pc := 42) (rAr_m rfl) dX14_isTape_42 b23 (v := (rA σ 1002 y19)) rfl (kk := ?_)
            have h := h (hwf.a _ _)
            obtain ⟨hT, hF⟩ := h
            refine y_icmp_ne hC (pc := 43) 50 (hwf.a _ _) (hwf.a _ _) dX14_isTape_43 (by decide) (fun c => ?_) (fun c => ?_)
            · have h := hT c
              refine z_iconst hC (pc := 50) (v := Int32.ofInt 0) dX14_isTape_50 (by decide) ?_
              refine z_istore_n hC (pc := 51) (lv' := [(3, iv 0), (0, .ref (κ 0)), (1, iv x1), (2, iv x2), (4, iv y19)]) dX14_isTape_51 rfl (by decide) rfl ?_
              refine y_iinc hC (pc := 52) (v := (y19 + 1)) (lv' := [(4, iv (y19 + 1)), (3, iv 0), (0, .ref (κ 0)), (1, iv x1), (2, iv x2)]) 4 dX14_isTape_52 rfl rfl (by decide) rfl ?_
              refine z_goto hC (pc := 55) 17 dX14_isTape_55 (by decide) ?_
              refine z_lvs [2, 3, 4, 1, 0] rfl ?_
              obtain ⟨r24, h⟩ := h
              obtain ⟨hI, hm⟩ := h
              exact ih17  0 (y19 + 1)  (r_lit rfl) r24  hI (by omega)
            · have h := hF c
              refine z_iconst hC (pc := 46) (v := Int32.ofInt 1) dX14_isTape_46 (by decide) ?_
              refine z_goto hC (pc := 47) 51 dX14_isTape_47 (by decide) ?_
              refine z_istore_n hC (pc := 51) (lv' := [(3, iv 1), (0, .ref (κ 0)), (1, iv x1), (2, iv x2), (4, iv y19)]) dX14_isTape_51 rfl (by decide) rfl ?_
              refine y_iinc hC (pc := 52) (v := (y19 + 1)) (lv' := [(4, iv (y19 + 1)), (3, iv 1), (0, .ref (κ 0)), (1, iv x1), (2, iv x2)]) 4 dX14_isTape_52 rfl rfl (by decide) rfl ?_
              refine z_goto hC (pc := 55) 17 dX14_isTape_55 (by decide) ?_
              refine z_lvs [2, 3, 4, 1, 0] rfl ?_
              obtain ⟨r25, h⟩ := h
              obtain ⟨hI, hm⟩ := h
              exact ih17  1 (y19 + 1)  (r_lit rfl) r25  hI (by omega)
    refine z_lvs [2, 3, 4, 1, 0] rfl ?_
    exact j17 _  1 0  (r_lit rfl) (r_lit rfl)  h (Nat.le_refl _)
theorem kX14_isTape (l : Launch) (G : zG) (κ : Nat → Nat) (σ : rS) (x1 : Int) (x2 : Int) (hwf : rWF σ) (hx1 : rng x1) (hx2 : rng x2) (hp : pre_X14_isTape σ x1 x2) : rMi l G κ yX14_isTape cX14_isTape 5 .boolean 1 0 [.ref (κ 0), iv x1, iv x2] σ (fun x s => s = σ ∧ post_X14_isTape σ x1 x2 x) := wX14_isTape l G κ σ x1 x2 hwf hx1 hx2 (post_X14_isTape σ x1 x2) (vX14_isTape σ x1 x2 hwf hx1 hx2 hp) (vX14_isTape_17 σ x1 x2 hwf hx1 hx2 hp) (vX14_isTape_17m σ x1 x2 hwf hx1 hx2 hp)
def pre_X14_keepTape (σ : rS)  : Prop := 0 ≤ (rF σ 0 45) ∧ 0 ≤ (rF σ 0 66) ∧ (rF σ 0 66) ≤ 4000 ∧ (rF σ 0 45) + (rF σ 0 66) ≤ 16000
def post_X14_keepTape (σ : rS)  (r : Int) (σ' : rS) : Prop := r = (rF σ 0 45) ∧ (rF σ' 0 45) = (rF σ 0 45) + (rF σ 0 66)
def inv_X14_keepTape_7 (σ : rS)   (s : rS) (fr : Int) (k : Int) : Prop := 0 ≤ k ∧ k ≤ (rF σ 0 66) ∧ fr = (rF σ 0 45) ∧ (rF s 0 45) = (rF σ 0 45)
def mu_X14_keepTape_7 (σ : rS)  (s : rS) (fr : Int) (k : Int) : Nat := (1 + ((rF σ 0 66) - k).toNat)
def VC_X14_keepTape (σ : rS) (Q : Int → rS → Prop) : Prop := (rng (rF σ 0 45) → (inv_X14_keepTape_7 σ σ (rF σ 0 45) 0))
def VC_X14_keepTape_7 (σ : rS) (Q : Int → rS → Prop) : Prop := ∀ (s10 : rS) (y11 : Int) (y12 : Int), rWF s10 → rng y11 → rng y12 → rF s10 0 66 = rF σ 0 66 → inv_X14_keepTape_7 σ s10 y11 y12 → ((rng (rF s10 0 66) → (((rF s10 0 66) ≤ y12 → (rng (rF s10 0 45) → rng ((rF s10 0 45) + (rF s10 0 66)) ∧ Q y11 (sF s10 0 45 ((rF s10 0 45) + (rF s10 0 66))))) ∧ (¬ (rF s10 0 66) ≤ y12 → (rng (rF s10 0 45) → (0 ≤ y12 ∧ y12 < 4000) ∧ (rng (rA s10 1002 y12) → (0 ≤ ((rF s10 0 45) + y12) ∧ ((rF s10 0 45) + y12) < 16000) ∧ rng (y12 + 1) ∧ (inv_X14_keepTape_7 σ (sA s10 1048 ((rF s10 0 45) + y12) (inar .byte (rA s10 1002 y12))) y11 (y12 + 1) ∧ (mu_X14_keepTape_7 σ (sA s10 1048 ((rF s10 0 45) + y12) (inar .byte (rA s10 1002 y12))) y11 (y12 + 1)) < (mu_X14_keepTape_7 σ s10 y11 y12))))))))
def VC_X14_keepTape_7m (σ : rS) : Prop := ∀ (s10 : rS) (y11 : Int) (y12 : Int), rWF s10 → rng y11 → rng y12 → rF s10 0 66 = rF σ 0 66 → inv_X14_keepTape_7 σ s10 y11 y12 → 0 < (mu_X14_keepTape_7 σ s10 y11 y12)
set_option maxHeartbeats 400000 in
theorem vX14_keepTape (σ : rS) (hwf : rWF σ) (hp : pre_X14_keepTape σ ) : VC_X14_keepTape σ (post_X14_keepTape σ ) := by
  simp only [VC_X14_keepTape, pre_X14_keepTape, post_X14_keepTape, inv_X14_keepTape_7, mu_X14_keepTape_7, rng, rfk, rNMp, rF_sF, rF_sA, rF_sL, rF_sR, rA_sA, rA_sF, rA_sL, rA_sR, rR_sF, rR_sA, rR_sL, rR_sR, reduceIte, and_true, true_and, and_false, false_and, and_self] at *
  (repeat' (first | with_reducible intro _ | with_reducible apply And.intro))
  all_goals (first | assumption | omega | grind (splits := 20) [rNM_sF0])
set_option maxHeartbeats 400000 in
theorem vX14_keepTape_7 (σ : rS) (hwf : rWF σ) (hp : pre_X14_keepTape σ ) : VC_X14_keepTape_7 σ (post_X14_keepTape σ ) := by
  simp only [VC_X14_keepTape_7, pre_X14_keepTape, post_X14_keepTape, inv_X14_keepTape_7, mu_X14_keepTape_7, rng, rfk, rNMp, rF_sF, rF_sA, rF_sL, rF_sR, rA_sA, rA_sF, rA_sL, rA_sR, rR_sF, rR_sA, rR_sL, rR_sR, reduceIte, and_true, true_and, and_false, false_and, and_self] at *
  (repeat' (first | with_reducible intro _ | with_reducible apply And.intro))
  all_goals (first | assumption | omega | grind (splits := 20) [rNM_sF0])
set_option maxHeartbeats 400000 in
theorem vX14_keepTape_7m (σ : rS) (hwf : rWF σ) (hp : pre_X14_keepTape σ ) : VC_X14_keepTape_7m σ := by
  simp only [VC_X14_keepTape_7m, pre_X14_keepTape, post_X14_keepTape, inv_X14_keepTape_7, mu_X14_keepTape_7, rng, rfk, rNMp, rF_sF, rF_sA, rF_sL, rF_sR, rA_sA, rA_sF, rA_sL, rA_sR, rR_sF, rR_sA, rR_sL, rR_sR, reduceIte, and_true, true_and, and_false, false_and, and_self] at *
  (repeat' (first | with_reducible intro _ | with_reducible apply And.intro))
  all_goals (first | assumption | omega | grind (splits := 20) [rNM_sF0])
theorem wX14_keepTape (l : Launch) (G : zG) (κ : Nat → Nat) (σ : rS) (hwf : rWF σ) (Q : Int → rS → Prop) (h : VC_X14_keepTape σ Q) (h_7 : VC_X14_keepTape_7 σ Q) (h_7m : VC_X14_keepTape_7m σ ) : rMi l G κ yX14_keepTape cX14_keepTape 3 .int 1 0 [.ref (κ 0)] σ (fun x s => rKeep 0x200000000000 0 0x1000000000000 0 0 σ s ∧ Q x s) := by
  refine zMi.intro (by decide +kernel) (Nat.le_of_ble_eq_true rfl) (fun X hC hR => ?_)
  refine z_aload_n hC (pc := 0) 0 dX14_keepTape_0 rfl rfl ?_
  refine y_get hC (pc := 1) zf14 rOb_0 45 (v := iv (rF σ 0 45)) dX14_keepTape_1 zw2512 (rv_i (Or.inl rfl) rfl) (kk := ?_)
  have h := h (hwf.f _ _)
  refine z_istore_n hC (pc := 4) (lv' := [(1, iv (rF σ 0 45)), (0, .ref (κ 0))]) dX14_keepTape_4 rfl (by decide) rfl ?_
  refine z_iconst hC (pc := 5) (v := Int32.ofInt 0) dX14_keepTape_5 (by decide) ?_
  refine z_istore_n hC (pc := 6) (lv' := [(2, iv 0), (1, iv (rF σ 0 45)), (0, .ref (κ 0))]) dX14_keepTape_6 rfl (by decide) rfl ?_
  have j7 : ∀ (d7 : Nat), ∀ (s10 : rS) (y11 : Int) (y12 : Int), rWF s10 → rng y11 → rng y12 → rKeep 0x200000000000 0 0x1000000000000 0 0 σ s10 → inv_X14_keepTape_7 σ s10 y11 y12 → (mu_X14_keepTape_7 σ  s10 y11 y12) ≤ d7 → zS X G 3 (rW G κ s10) [(0, .ref (κ 0)), (1, iv y11), (2, iv y12)] 0 0 7 [] := by
    intro d7
    induction d7 with
    | zero =>
      intro s10 y11 y12 Ws10 hy11 hy12 kJ hI hmu
      exact absurd hmu (by have := h_7m  s10 y11 y12 Ws10 hy11 hy12 (kJ.F rfl) hI; omega)
    | succ d7 ih7 =>
      intro s10 y11 y12 Ws10 hy11 hy12 kJ hI hmu7
      have h := h_7  s10 y11 y12 Ws10 hy11 hy12 (kJ.F rfl) hI
      refine z_iload_n hC (pc := 7) 2 dX14_keepTape_7 rfl rfl ?_
      refine z_aload_n hC (pc := 8) 0 dX14_keepTape_8 rfl rfl ?_
      refine y_get hC (pc := 9) zf14 rOb_0 66 (v := iv (rF s10 0 66)) dX14_keepTape_9 zw2533 (rv_i (Or.inl rfl) rfl) (kk := ?_)
      have h := h (Ws10.f _ _)
      obtain ⟨hT, hF⟩ := h
      refine y_icmp_ge hC (pc := 12) 38 hy12 (Ws10.f _ _) dX14_keepTape_12 (by decide) (fun c => ?_) (fun c => ?_)
      · have h := hT c
        refine z_aload_n hC (pc := 38) 0 dX14_keepTape_38 rfl rfl ?_
        refine z_dup hC (pc := 39) dX14_keepTape_39 rfl ?_
        refine y_get hC (pc := 40) zf14 rOb_0 45 (v := iv (rF s10 0 45)) dX14_keepTape_40 zw2512 (rv_i (Or.inl rfl) rfl) (kk := ?_)
        have h := h (Ws10.f _ _)
        refine z_aload_n hC (pc := 43) 0 dX14_keepTape_43 rfl rfl ?_
        refine y_get hC (pc := 44) zf14 rOb_0 66 (v := iv (rF s10 0 66)) dX14_keepTape_44 zw2533 (rv_i (Or.inl rfl) rfl) (kk := ?_)
        refine y_iadd hC (pc := 47) (v := ((rF s10 0 45) + (rF s10 0 66))) dX14_keepTape_47 rfl ?_
        obtain ⟨r13, h⟩ := h
        refine y_putI hC (pc := 48) zf14 rOb_0 45 (x := ((rF s10 0 45) + (rF s10 0 66))) dX14_keepTape_48 zw2512 (Or.inl rfl) rfl rfl (kk := ?_)
        have W14 := Ws10.sF (q := 0) (f := 45) (x := ((rF s10 0 45) + (rF s10 0 66))) r13
        refine z_iload_n hC (pc := 51) 1 dX14_keepTape_51 rfl rfl ?_
        exact y_reti hR dX14_keepTape_52 rfl hy11 W14 (Nat.le_of_ble_eq_true rfl) (Nat.le_of_ble_eq_true rfl) ⟨(rKeep.tr (rKeep.tr rKeep.rf kJ rfl rfl rfl rfl rfl) (rKeep.sF0 (f := 45)) rfl rfl rfl rfl rfl), h⟩
      · have h := hF c
        refine z_aload_n hC (pc := 15) 0 dX14_keepTape_15 rfl rfl ?_
        refine y_get hC (pc := 16) zf14 rOb_0 48 (v := .ref (κ 1048)) dX14_keepTape_16 zw2515 (rv_c rfl) (kk := ?_)
        refine z_aload_n hC (pc := 19) 0 dX14_keepTape_19 rfl rfl ?_
        refine y_get hC (pc := 20) zf14 rOb_0 45 (v := iv (rF s10 0 45)) dX14_keepTape_20 zw2512 (rv_i (Or.inl rfl) rfl) (kk := ?_)
        have h := h (Ws10.f _ _)
        refine z_iload_n hC (pc := 23) 2 dX14_keepTape_23 rfl rfl ?_
        refine y_iadd hC (pc := 24) (v := ((rF s10 0 45) + y12)) dX14_keepTape_24 rfl ?_
        refine z_aload_n hC (pc := 25) 0 dX14_keepTape_25 rfl rfl ?_
        refine y_get hC (pc := 26) zf14 rOb_0 2 (v := .ref (κ 1002)) dX14_keepTape_26 zw2470 (rv_c rfl) (kk := ?_)
        refine z_iload_n hC (pc := 29) 2 dX14_keepTape_29 rfl rfl ?_
        obtain ⟨b15, h⟩ := h
        refine y_bald hC (pc := 30) (rAr_m rfl) dX14_keepTape_30 b15 (v := (rA s10 1002 y12)) rfl (kk := ?_)
        have h := h (Ws10.a _ _)
        obtain ⟨b16, h⟩ := h
        refine y_bast hC (pc := 31) (rAr_m rfl) dX14_keepTape_31 b16 (v := (rA s10 1002 y12)) (kk := ?_)
        have W17 := Ws10.sA (p := 1048) (i := ((rF s10 0 45) + y12)) (x := (inar .byte (rA s10 1002 y12))) (inar_rng _ _)
        refine y_iinc hC (pc := 32) (v := (y12 + 1)) (lv' := [(2, iv (y12 + 1)), (0, .ref (κ 0)), (1, iv y11)]) 2 dX14_keepTape_32 rfl rfl (by decide) rfl ?_
        refine z_goto hC (pc := 35) 7 dX14_keepTape_35 (by decide) ?_
        refine z_lvs [1, 2, 0] rfl ?_
        obtain ⟨r18, h⟩ := h
        obtain ⟨hI, hm⟩ := h
        exact ih7 (sA s10 1048 ((rF s10 0 45) + y12) (inar .byte (rA s10 1002 y12))) y11 (y12 + 1) W17 hy11 r18 (rKeep.tr (rKeep.tr rKeep.rf kJ rfl rfl rfl rfl rfl) (rKeep.sA0 (f := 48) (by decide)) rfl rfl rfl rfl rfl) hI (by omega)
  refine z_lvs [2, 1, 0] rfl ?_
  exact j7 _ σ (rF σ 0 45) 0 hwf (hwf.f _ _) (r_lit rfl) rKeep.rf h (Nat.le_refl _)
theorem kX14_keepTape (l : Launch) (G : zG) (κ : Nat → Nat) (σ : rS) (hwf : rWF σ) (hp : pre_X14_keepTape σ ) : rMi l G κ yX14_keepTape cX14_keepTape 3 .int 1 0 [.ref (κ 0)] σ (fun x s => rKeep 0x200000000000 0 0x1000000000000 0 0 σ s ∧ post_X14_keepTape σ x s) := wX14_keepTape l G κ σ hwf (post_X14_keepTape σ ) (vX14_keepTape σ hwf hp) (vX14_keepTape_7 σ hwf hp) (vX14_keepTape_7m σ hwf hp)
def pre_X14_attribute (σ : rS) (x1 : Int) : Prop := 0 ≤ (rF σ 0 43) ∧ (rF σ 0 43) ≤ 500 ∧ 0 ≤ (rF σ 0 45) ∧ (rF σ 0 45) ≤ 16000 ∧ 0 ≤ (rF σ 0 44) ∧ (rF σ 0 44) ≤ 4000 ∧ 0 ≤ (rF σ 0 60) ∧ (rF σ 0 60) ≤ 40 ∧ 0 ≤ (rF σ 0 3) ∧ (rF σ 0 3) ≤ 4000 ∧ VMp σ ∧ KYp σ ∧ PPp σ ∧ WFp σ
def post_X14_attribute (σ : rS) (x1 : Int) (r : Int) (σ' : rS) : Prop := 0 ≤ (rF σ' 0 43) ∧ (rF σ' 0 43) ≤ 500 ∧ 0 ≤ (rF σ' 0 45) ∧ (rF σ' 0 45) ≤ 16000 ∧ 0 ≤ (rF σ' 0 44) ∧ (rF σ' 0 44) ≤ 4000 ∧ 0 ≤ (rF σ' 0 60) ∧ (rF σ' 0 60) ≤ 40 ∧ 0 ≤ (rF σ' 0 3) ∧ (rF σ' 0 3) ≤ 4000 ∧ VMp σ' ∧ KYp σ' ∧ PPp σ' ∧ WFp σ'
def inv_X14_attribute_98 (σ : rS) (x1 : Int)  (s : rS) (k : Int) : Prop := 0 ≤ (rF s 0 43) ∧ (rF s 0 43) ≤ 500 ∧ 0 ≤ (rF s 0 45) ∧ (rF s 0 45) ≤ 16000 ∧ 0 ≤ (rF s 0 44) ∧ (rF s 0 44) ≤ 4000 ∧ 0 ≤ (rF s 0 60) ∧ (rF s 0 60) ≤ 40 ∧ 0 ≤ (rF s 0 3) ∧ (rF s 0 3) ≤ 4000 ∧ 1 ≤ (rF s 0 66) ∧ (rF s 0 66) ≤ 16 ∧ (rF s 0 60) < 40 ∧ 0 ≤ k ∧ k ≤ (rF s 0 66)
def mu_X14_attribute_98 (σ : rS) (x1 : Int) (s : rS) (k : Int) : Nat := (1 + ((rF s 0 66) - k).toNat)
def VC_X14_attribute (σ : rS) (x1 : Int) (Q : Int → rS → Prop) : Prop := pre_X14_take (sF σ 0 0 0) ∧ (∀ (s12 : rS), rWF s12 → (VMp (sF σ 0 0 0) → VMp s12) → (KYp (sF σ 0 0 0) → KYp s12) → (PPp (sF σ 0 0 0) → PPp s12) → (WFp (sF σ 0 0 0) → WFp s12) → rF s12 0 43 = rF (sF σ 0 0 0) 0 43 → rF s12 0 44 = rF (sF σ 0 0 0) 0 44 → rF s12 0 45 = rF (sF σ 0 0 0) 0 45 → rF s12 0 60 = rF (sF σ 0 0 0) 0 60 → post_X14_take (sF σ 0 0 0) s12 → pre_X14_isMade s12 ∧ (∀ (x16 : Int), rng x16 → post_X14_isMade s12 x16 → ((¬ x16 = 0 → Q (-1) s12) ∧ (x16 = 0 → ((x1 < (-1) → Q (-1) s12) ∧ (¬ x1 < (-1) → (rng (rF s12 0 43) → (((rF s12 0 43) ≤ x1 → Q (-1) s12) ∧ (¬ (rF s12 0 43) ≤ x1 → (rng (rF s12 0 66) → (((rF s12 0 66) < 1 → Q (-1) s12) ∧ (¬ (rF s12 0 66) < 1 → ((16 < (rF s12 0 66) → Q (-1) s12) ∧ (¬ 16 < (rF s12 0 66) → (rng (rF s12 0 60) → ((¬ (rF s12 0 60) = 40 → (0 ≤ (rF s12 0 60) ∧ (rF s12 0 60) < 40) ∧ rng (16 * (rF s12 0 60)) ∧ (0 ≤ (rF s12 0 60) ∧ (rF s12 0 60) < 40) ∧ (0 ≤ (rF s12 0 60) ∧ (rF s12 0 60) < 40) ∧ (inv_X14_attribute_98 σ x1 (sA (sA (sA s12 1061 (rF s12 0 60) (16 * (rF s12 0 60))) 1062 (rF s12 0 60) (rF s12 0 66)) 1063 (rF s12 0 60) x1) 0)) ∧ ((rF s12 0 60) = 40 → Q (-1) s12)))))))))))))))))
def VC_X14_attribute_98 (σ : rS) (x1 : Int) (Q : Int → rS → Prop) : Prop := ∀ (s24 : rS) (y25 : Int), rWF s24 → rng y25 → (VMp σ → VMp s24) → (KYp σ → KYp s24) → (PPp σ → PPp s24) → (WFp σ → WFp s24) → rF s24 0 43 = rF σ 0 43 → rF s24 0 44 = rF σ 0 44 → rF s24 0 45 = rF σ 0 45 → inv_X14_attribute_98 σ x1 s24 y25 → ((rng (rF s24 0 66) → (((rF s24 0 66) ≤ y25 → (rng (rF s24 0 60) → rng ((rF s24 0 60) + 1) ∧ Q ((rF s24 0 60) + 1) (sF s24 0 60 ((rF s24 0 60) + 1)))) ∧ (¬ (rF s24 0 66) ≤ y25 → (rng (rF s24 0 60) → (0 ≤ y25 ∧ y25 < 4000) ∧ (rng (rA s24 1002 y25) → (0 ≤ ((16 * (rF s24 0 60)) + y25) ∧ ((16 * (rF s24 0 60)) + y25) < 640) ∧ rng (y25 + 1) ∧ (inv_X14_attribute_98 σ x1 (sA s24 1064 ((16 * (rF s24 0 60)) + y25) (inar .byte (rA s24 1002 y25))) (y25 + 1) ∧ (mu_X14_attribute_98 σ x1 (sA s24 1064 ((16 * (rF s24 0 60)) + y25) (inar .byte (rA s24 1002 y25))) (y25 + 1)) < (mu_X14_attribute_98 σ x1 s24 y25))))))))
def VC_X14_attribute_98m (σ : rS) (x1 : Int) : Prop := ∀ (s24 : rS) (y25 : Int), rWF s24 → rng y25 → (VMp σ → VMp s24) → (KYp σ → KYp s24) → (PPp σ → PPp s24) → (WFp σ → WFp s24) → rF s24 0 43 = rF σ 0 43 → rF s24 0 44 = rF σ 0 44 → rF s24 0 45 = rF σ 0 45 → inv_X14_attribute_98 σ x1 s24 y25 → 0 < (mu_X14_attribute_98 σ x1 s24 y25)
set_option maxHeartbeats 400000 in
theorem vX14_attribute (σ : rS) (x1 : Int) (hwf : rWF σ) (hx1 : rng x1) (hp : pre_X14_attribute σ x1) : VC_X14_attribute σ x1 (post_X14_attribute σ x1) := by
  simp only [VC_X14_attribute, pre_X14_attribute, post_X14_attribute, inv_X14_attribute_98, mu_X14_attribute_98, pre_X14_isMade, pre_X14_take, post_X14_isMade, post_X14_take, rng, rfk, rNMp, rF_sF, rF_sA, rF_sL, rF_sR, rA_sA, rA_sF, rA_sL, rA_sR, rR_sF, rR_sA, rR_sL, rR_sR, reduceIte, and_true, true_and, and_false, false_and, and_self, VMp_sL, VMp_sF0, VMp_sF3, VMp_sF10, VMp_sF11, VMp_sF12, VMp_sF13, VMp_sF14, VMp_sF16, VMp_sF17, VMp_sF18, VMp_sF19, VMp_sF21, VMp_sF22, VMp_sF23, VMp_sF24, VMp_sF25, VMp_sF28, VMp_sF29, VMp_sF30, VMp_sF31, VMp_sF32, VMp_sF33, VMp_sF38, VMp_sF39, VMp_sF41, VMp_sF42, VMp_sF43, VMp_sF44, VMp_sF45, VMp_sF60, VMp_sF65, VMp_sF66, VMp_sF67, VMp_sF68, VMp_sF70, VMp_sF71, VMp_sF72, VMp_sF73, VMp_sF74, VMp_sF80, VMp_sF81, VMp_sF82, VMp_sF83, VMp_sF88, VMp_sF92, VMp_sF94, VMp_sF96, VMp_sF97, VMp_sF98, VMp_sF99, VMp_sF100, VMp_sF101, VMp_sF103, VMp_sF104, VMp_sF112, VMp_sF113, VMp_sF118, VMp_sF119, VMp_sF122, VMp_sF123, VMp_sF135, VMp_sF137, VMp_sA1, VMp_sA2, VMp_sA5, VMp_sA20, VMp_sA26, VMp_sA27, VMp_sA34, VMp_sA35, VMp_sA36, VMp_sA37, VMp_sA40, VMp_sA47, VMp_sA48, VMp_sA49, VMp_sA50, VMp_sA52, VMp_sA53, VMp_sA54, VMp_sA55, VMp_sA56, VMp_sA57, VMp_sA58, VMp_sA59, VMp_sA61, VMp_sA62, VMp_sA63, VMp_sA64, VMp_sA69, VMp_sA75, VMp_sA76, VMp_sA77, VMp_sA78, VMp_sA79, VMp_sA84, VMp_sA85, VMp_sA86, VMp_sA87, VMp_sA89, VMp_sA90, VMp_sA91, VMp_sA93, VMp_sA102, VMp_sA105, VMp_sA106, VMp_sA107, VMp_sA108, VMp_sA109, VMp_sA110, VMp_sA111, VMp_sA114, VMp_sA115, VMp_sA116, VMp_sA117, VMp_sA120, VMp_sA121, VMp_sA124, VMp_sA125, VMp_sA126, VMp_sA127, VMp_sA128, VMp_sA129, VMp_sA136, VMp_sA138, VMp_gA0, VMp_gA1, VMp_gA2, VMp_gA3, VMp_gA4, VMp_gA5, VMp_gA6, VMp_gA8, VMp_gA10, VMp_gA11, VMp_gA15, VMp_gA16, VMp_gA17, VMp_gA18, VMp_gA19, VMp_gA20, VMp_gA21, VMp_gA22, VMp_gA23, VMp_gA24, VMp_gA25, VMp_gA26, VMp_gA27, VMp_gA29, VMp_gA30, VMp_gA31, VMp_gA33, VMp_gA34, VMp_gA35, VMp_gA36, VMp_gA37, VMp_sF7, VMp_sF9, KYp_sL, KYp_sF0, KYp_sF3, KYp_sF10, KYp_sF11, KYp_sF12, KYp_sF13, KYp_sF14, KYp_sF16, KYp_sF17, KYp_sF18, KYp_sF19, KYp_sF21, KYp_sF22, KYp_sF23, KYp_sF24, KYp_sF25, KYp_sF28, KYp_sF29, KYp_sF30, KYp_sF31, KYp_sF32, KYp_sF33, KYp_sF38, KYp_sF39, KYp_sF41, KYp_sF42, KYp_sF43, KYp_sF44, KYp_sF45, KYp_sF60, KYp_sF65, KYp_sF66, KYp_sF67, KYp_sF68, KYp_sF70, KYp_sF71, KYp_sF72, KYp_sF73, KYp_sF74, KYp_sF80, KYp_sF81, KYp_sF82, KYp_sF83, KYp_sF88, KYp_sF92, KYp_sF94, KYp_sF96, KYp_sF97, KYp_sF98, KYp_sF99, KYp_sF100, KYp_sF101, KYp_sF103, KYp_sF104, KYp_sF112, KYp_sF113, KYp_sF118, KYp_sF119, KYp_sF122, KYp_sF123, KYp_sF135, KYp_sF137, KYp_sA1, KYp_sA2, KYp_sA5, KYp_sA20, KYp_sA26, KYp_sA27, KYp_sA34, KYp_sA35, KYp_sA36, KYp_sA37, KYp_sA40, KYp_sA46, KYp_sA47, KYp_sA48, KYp_sA49, KYp_sA50, KYp_sA51, KYp_sA52, KYp_sA55, KYp_sA56, KYp_sA57, KYp_sA58, KYp_sA59, KYp_sA61, KYp_sA62, KYp_sA63, KYp_sA64, KYp_sA69, KYp_sA75, KYp_sA76, KYp_sA77, KYp_sA78, KYp_sA79, KYp_sA84, KYp_sA85, KYp_sA86, KYp_sA87, KYp_sA89, KYp_sA90, KYp_sA91, KYp_sA93, KYp_sA102, KYp_sA105, KYp_sA106, KYp_sA107, KYp_sA108, KYp_sA109, KYp_sA110, KYp_sA111, KYp_sA114, KYp_sA115, KYp_sA116, KYp_sA117, KYp_sA120, KYp_sA121, KYp_sA124, KYp_sA125, KYp_sA126, KYp_sA127, KYp_sA128, KYp_sA129, KYp_sA136, KYp_sA138, KYp_gA0, KYp_gA1, KYp_gA2, KYp_gA3, KYp_gA4, KYp_gA5, KYp_gA6, KYp_gA8, KYp_gA10, KYp_gA11, KYp_gA15, KYp_gA16, KYp_gA17, KYp_gA18, KYp_gA19, KYp_gA20, KYp_gA21, KYp_gA22, KYp_gA23, KYp_gA24, KYp_gA25, KYp_gA26, KYp_gA27, KYp_gA29, KYp_gA30, KYp_gA31, KYp_gA33, KYp_gA34, KYp_gA35, KYp_gA36, KYp_gA37, KYp_sF7, KYp_sF9, PPp_sL, PPp_sF0, PPp_sF3, PPp_sF10, PPp_sF11, PPp_sF12, PPp_sF13, PPp_sF14, PPp_sF16, PPp_sF17, PPp_sF18, PPp_sF19, PPp_sF21, PPp_sF22, PPp_sF23, PPp_sF24, PPp_sF25, PPp_sF28, PPp_sF29, PPp_sF30, PPp_sF31, PPp_sF32, PPp_sF33, PPp_sF38, PPp_sF39, PPp_sF41, PPp_sF42, PPp_sF43, PPp_sF44, PPp_sF45, PPp_sF60, PPp_sF65, PPp_sF66, PPp_sF67, PPp_sF68, PPp_sF70, PPp_sF71, PPp_sF72, PPp_sF73, PPp_sF74, PPp_sF80, PPp_sF81, PPp_sF82, PPp_sF83, PPp_sF88, PPp_sF92, PPp_sF94, PPp_sF96, PPp_sF97, PPp_sF98, PPp_sF99, PPp_sF100, PPp_sF101, PPp_sF103, PPp_sF104, PPp_sF112, PPp_sF113, PPp_sF118, PPp_sF119, PPp_sF122, PPp_sF123, PPp_sF135, PPp_sF137, PPp_sA1, PPp_sA2, PPp_sA5, PPp_sA20, PPp_sA26, PPp_sA27, PPp_sA34, PPp_sA35, PPp_sA36, PPp_sA37, PPp_sA40, PPp_sA46, PPp_sA47, PPp_sA48, PPp_sA49, PPp_sA50, PPp_sA51, PPp_sA52, PPp_sA53, PPp_sA54, PPp_sA55, PPp_sA58, PPp_sA59, PPp_sA61, PPp_sA62, PPp_sA63, PPp_sA64, PPp_sA69, PPp_sA75, PPp_sA76, PPp_sA77, PPp_sA78, PPp_sA79, PPp_sA84, PPp_sA85, PPp_sA86, PPp_sA87, PPp_sA89, PPp_sA90, PPp_sA91, PPp_sA93, PPp_sA102, PPp_sA105, PPp_sA106, PPp_sA107, PPp_sA108, PPp_sA109, PPp_sA110, PPp_sA111, PPp_sA114, PPp_sA115, PPp_sA116, PPp_sA117, PPp_sA120, PPp_sA121, PPp_sA124, PPp_sA125, PPp_sA126, PPp_sA127, PPp_sA128, PPp_sA129, PPp_sA136, PPp_sA138, PPp_gA0, PPp_gA1, PPp_gA2, PPp_gA3, PPp_gA4, PPp_gA5, PPp_gA6, PPp_gA8, PPp_gA10, PPp_gA11, PPp_gA15, PPp_gA16, PPp_gA17, PPp_gA18, PPp_gA19, PPp_gA20, PPp_gA21, PPp_gA22, PPp_gA23, PPp_gA24, PPp_gA25, PPp_gA26, PPp_gA27, PPp_gA29, PPp_gA30, PPp_gA31, PPp_gA33, PPp_gA34, PPp_gA35, PPp_gA36, PPp_gA37, PPp_sF7, PPp_sF9, WFp_sL, WFp_sF0, WFp_sF3, WFp_sF10, WFp_sF11, WFp_sF12, WFp_sF13, WFp_sF14, WFp_sF16, WFp_sF17, WFp_sF18, WFp_sF19, WFp_sF21, WFp_sF22, WFp_sF23, WFp_sF24, WFp_sF25, WFp_sF28, WFp_sF29, WFp_sF30, WFp_sF31, WFp_sF32, WFp_sF33, WFp_sF38, WFp_sF39, WFp_sF41, WFp_sF42, WFp_sF43, WFp_sF44, WFp_sF45, WFp_sF60, WFp_sF65, WFp_sF66, WFp_sF67, WFp_sF68, WFp_sF70, WFp_sF71, WFp_sF72, WFp_sF73, WFp_sF74, WFp_sF80, WFp_sF81, WFp_sF82, WFp_sF83, WFp_sF88, WFp_sF92, WFp_sF94, WFp_sF96, WFp_sF97, WFp_sF98, WFp_sF99, WFp_sF100, WFp_sF101, WFp_sF103, WFp_sF104, WFp_sF112, WFp_sF113, WFp_sF118, WFp_sF119, WFp_sF122, WFp_sF123, WFp_sF135, WFp_sF137, WFp_sA1, WFp_sA2, WFp_sA5, WFp_sA20, WFp_sA26, WFp_sA27, WFp_sA34, WFp_sA35, WFp_sA36, WFp_sA37, WFp_sA40, WFp_sA46, WFp_sA47, WFp_sA48, WFp_sA51, WFp_sA52, WFp_sA53, WFp_sA54, WFp_sA55, WFp_sA56, WFp_sA57, WFp_sA58, WFp_sA59, WFp_sA61, WFp_sA62, WFp_sA63, WFp_sA64, WFp_sA69, WFp_sA75, WFp_sA76, WFp_sA77, WFp_sA78, WFp_sA79, WFp_sA84, WFp_sA85, WFp_sA86, WFp_sA87, WFp_sA89, WFp_sA90, WFp_sA91, WFp_sA93, WFp_sA102, WFp_sA105, WFp_sA106, WFp_sA107, WFp_sA108, WFp_sA109, WFp_sA110, WFp_sA111, WFp_sA114, WFp_sA115, WFp_sA116, WFp_sA117, WFp_sA120, WFp_sA121, WFp_sA124, WFp_sA125, WFp_sA126, WFp_sA127, WFp_sA128, WFp_sA129, WFp_sA136, WFp_sA138, WFp_gA0, WFp_gA1, WFp_gA2, WFp_gA3, WFp_gA4, WFp_gA5, WFp_gA6, WFp_gA8, WFp_gA10, WFp_gA11, WFp_gA15, WFp_gA16, WFp_gA17, WFp_gA18, WFp_gA19, WFp_gA20, WFp_gA21, WFp_gA22, WFp_gA23, WFp_gA24, WFp_gA25, WFp_gA26, WFp_gA27, WFp_gA29, WFp_gA30, WFp_gA31, WFp_gA33, WFp_gA34, WFp_gA35, WFp_gA36, WFp_gA37, WFp_sF7, WFp_sF9] at *
  (repeat' (first | with_reducible intro _ | with_reducible apply And.intro))
  all_goals (first | assumption | omega | grind (splits := 20) [rNM_sF0])
set_option maxHeartbeats 400000 in
theorem vX14_attribute_98 (σ : rS) (x1 : Int) (hwf : rWF σ) (hx1 : rng x1) (hp : pre_X14_attribute σ x1) : VC_X14_attribute_98 σ x1 (post_X14_attribute σ x1) := by
  simp only [VC_X14_attribute_98, pre_X14_attribute, post_X14_attribute, inv_X14_attribute_98, mu_X14_attribute_98, pre_X14_isMade, pre_X14_take, post_X14_isMade, post_X14_take, rng, rfk, rNMp, rF_sF, rF_sA, rF_sL, rF_sR, rA_sA, rA_sF, rA_sL, rA_sR, rR_sF, rR_sA, rR_sL, rR_sR, reduceIte, and_true, true_and, and_false, false_and, and_self, VMp_sL, VMp_sF0, VMp_sF3, VMp_sF10, VMp_sF11, VMp_sF12, VMp_sF13, VMp_sF14, VMp_sF16, VMp_sF17, VMp_sF18, VMp_sF19, VMp_sF21, VMp_sF22, VMp_sF23, VMp_sF24, VMp_sF25, VMp_sF28, VMp_sF29, VMp_sF30, VMp_sF31, VMp_sF32, VMp_sF33, VMp_sF38, VMp_sF39, VMp_sF41, VMp_sF42, VMp_sF43, VMp_sF44, VMp_sF45, VMp_sF60, VMp_sF65, VMp_sF66, VMp_sF67, VMp_sF68, VMp_sF70, VMp_sF71, VMp_sF72, VMp_sF73, VMp_sF74, VMp_sF80, VMp_sF81, VMp_sF82, VMp_sF83, VMp_sF88, VMp_sF92, VMp_sF94, VMp_sF96, VMp_sF97, VMp_sF98, VMp_sF99, VMp_sF100, VMp_sF101, VMp_sF103, VMp_sF104, VMp_sF112, VMp_sF113, VMp_sF118, VMp_sF119, VMp_sF122, VMp_sF123, VMp_sF135, VMp_sF137, VMp_sA1, VMp_sA2, VMp_sA5, VMp_sA20, VMp_sA26, VMp_sA27, VMp_sA34, VMp_sA35, VMp_sA36, VMp_sA37, VMp_sA40, VMp_sA47, VMp_sA48, VMp_sA49, VMp_sA50, VMp_sA52, VMp_sA53, VMp_sA54, VMp_sA55, VMp_sA56, VMp_sA57, VMp_sA58, VMp_sA59, VMp_sA61, VMp_sA62, VMp_sA63, VMp_sA64, VMp_sA69, VMp_sA75, VMp_sA76, VMp_sA77, VMp_sA78, VMp_sA79, VMp_sA84, VMp_sA85, VMp_sA86, VMp_sA87, VMp_sA89, VMp_sA90, VMp_sA91, VMp_sA93, VMp_sA102, VMp_sA105, VMp_sA106, VMp_sA107, VMp_sA108, VMp_sA109, VMp_sA110, VMp_sA111, VMp_sA114, VMp_sA115, VMp_sA116, VMp_sA117, VMp_sA120, VMp_sA121, VMp_sA124, VMp_sA125, VMp_sA126, VMp_sA127, VMp_sA128, VMp_sA129, VMp_sA136, VMp_sA138, VMp_gA0, VMp_gA1, VMp_gA2, VMp_gA3, VMp_gA4, VMp_gA5, VMp_gA6, VMp_gA8, VMp_gA10, VMp_gA11, VMp_gA15, VMp_gA16, VMp_gA17, VMp_gA18, VMp_gA19, VMp_gA20, VMp_gA21, VMp_gA22, VMp_gA23, VMp_gA24, VMp_gA25, VMp_gA26, VMp_gA27, VMp_gA29, VMp_gA30, VMp_gA31, VMp_gA33, VMp_gA34, VMp_gA35, VMp_gA36, VMp_gA37, VMp_sF7, VMp_sF9, KYp_sL, KYp_sF0, KYp_sF3, KYp_sF10, KYp_sF11, KYp_sF12, KYp_sF13, KYp_sF14, KYp_sF16, KYp_sF17, KYp_sF18, KYp_sF19, KYp_sF21, KYp_sF22, KYp_sF23, KYp_sF24, KYp_sF25, KYp_sF28, KYp_sF29, KYp_sF30, KYp_sF31, KYp_sF32, KYp_sF33, KYp_sF38, KYp_sF39, KYp_sF41, KYp_sF42, KYp_sF43, KYp_sF44, KYp_sF45, KYp_sF60, KYp_sF65, KYp_sF66, KYp_sF67, KYp_sF68, KYp_sF70, KYp_sF71, KYp_sF72, KYp_sF73, KYp_sF74, KYp_sF80, KYp_sF81, KYp_sF82, KYp_sF83, KYp_sF88, KYp_sF92, KYp_sF94, KYp_sF96, KYp_sF97, KYp_sF98, KYp_sF99, KYp_sF100, KYp_sF101, KYp_sF103, KYp_sF104, KYp_sF112, KYp_sF113, KYp_sF118, KYp_sF119, KYp_sF122, KYp_sF123, KYp_sF135, KYp_sF137, KYp_sA1, KYp_sA2, KYp_sA5, KYp_sA20, KYp_sA26, KYp_sA27, KYp_sA34, KYp_sA35, KYp_sA36, KYp_sA37, KYp_sA40, KYp_sA46, KYp_sA47, KYp_sA48, KYp_sA49, KYp_sA50, KYp_sA51, KYp_sA52, KYp_sA55, KYp_sA56, KYp_sA57, KYp_sA58, KYp_sA59, KYp_sA61, KYp_sA62, KYp_sA63, KYp_sA64, KYp_sA69, KYp_sA75, KYp_sA76, KYp_sA77, KYp_sA78, KYp_sA79, KYp_sA84, KYp_sA85, KYp_sA86, KYp_sA87, KYp_sA89, KYp_sA90, KYp_sA91, KYp_sA93, KYp_sA102, KYp_sA105, KYp_sA106, KYp_sA107, KYp_sA108, KYp_sA109, KYp_sA110, KYp_sA111, KYp_sA114, KYp_sA115, KYp_sA116, KYp_sA117, KYp_sA120, KYp_sA121, KYp_sA124, KYp_sA125, KYp_sA126, KYp_sA127, KYp_sA128, KYp_sA129, KYp_sA136, KYp_sA138, KYp_gA0, KYp_gA1, KYp_gA2, KYp_gA3, KYp_gA4, KYp_gA5, KYp_gA6, KYp_gA8, KYp_gA10, KYp_gA11, KYp_gA15, KYp_gA16, KYp_gA17, KYp_gA18, KYp_gA19, KYp_gA20, KYp_gA21, KYp_gA22, KYp_gA23, KYp_gA24, KYp_gA25, KYp_gA26, KYp_gA27, KYp_gA29, KYp_gA30, KYp_gA31, KYp_gA33, KYp_gA34, KYp_gA35, KYp_gA36, KYp_gA37, KYp_sF7, KYp_sF9, PPp_sL, PPp_sF0, PPp_sF3, PPp_sF10, PPp_sF11, PPp_sF12, PPp_sF13, PPp_sF14, PPp_sF16, PPp_sF17, PPp_sF18, PPp_sF19, PPp_sF21, PPp_sF22, PPp_sF23, PPp_sF24, PPp_sF25, PPp_sF28, PPp_sF29, PPp_sF30, PPp_sF31, PPp_sF32, PPp_sF33, PPp_sF38, PPp_sF39, PPp_sF41, PPp_sF42, PPp_sF43, PPp_sF44, PPp_sF45, PPp_sF60, PPp_sF65, PPp_sF66, PPp_sF67, PPp_sF68, PPp_sF70, PPp_sF71, PPp_sF72, PPp_sF73, PPp_sF74, PPp_sF80, PPp_sF81, PPp_sF82, PPp_sF83, PPp_sF88, PPp_sF92, PPp_sF94, PPp_sF96, PPp_sF97, PPp_sF98, PPp_sF99, PPp_sF100, PPp_sF101, PPp_sF103, PPp_sF104, PPp_sF112, PPp_sF113, PPp_sF118, PPp_sF119, PPp_sF122, PPp_sF123, PPp_sF135, PPp_sF137, PPp_sA1, PPp_sA2, PPp_sA5, PPp_sA20, PPp_sA26, PPp_sA27, PPp_sA34, PPp_sA35, PPp_sA36, PPp_sA37, PPp_sA40, PPp_sA46, PPp_sA47, PPp_sA48, PPp_sA49, PPp_sA50, PPp_sA51, PPp_sA52, PPp_sA53, PPp_sA54, PPp_sA55, PPp_sA58, PPp_sA59, PPp_sA61, PPp_sA62, PPp_sA63, PPp_sA64, PPp_sA69, PPp_sA75, PPp_sA76, PPp_sA77, PPp_sA78, PPp_sA79, PPp_sA84, PPp_sA85, PPp_sA86, PPp_sA87, PPp_sA89, PPp_sA90, PPp_sA91, PPp_sA93, PPp_sA102, PPp_sA105, PPp_sA106, PPp_sA107, PPp_sA108, PPp_sA109, PPp_sA110, PPp_sA111, PPp_sA114, PPp_sA115, PPp_sA116, PPp_sA117, PPp_sA120, PPp_sA121, PPp_sA124, PPp_sA125, PPp_sA126, PPp_sA127, PPp_sA128, PPp_sA129, PPp_sA136, PPp_sA138, PPp_gA0, PPp_gA1, PPp_gA2, PPp_gA3, PPp_gA4, PPp_gA5, PPp_gA6, PPp_gA8, PPp_gA10, PPp_gA11, PPp_gA15, PPp_gA16, PPp_gA17, PPp_gA18, PPp_gA19, PPp_gA20, PPp_gA21, PPp_gA22, PPp_gA23, PPp_gA24, PPp_gA25, PPp_gA26, PPp_gA27, PPp_gA29, PPp_gA30, PPp_gA31, PPp_gA33, PPp_gA34, PPp_gA35, PPp_gA36, PPp_gA37, PPp_sF7, PPp_sF9, WFp_sL, WFp_sF0, WFp_sF3, WFp_sF10, WFp_sF11, WFp_sF12, WFp_sF13, WFp_sF14, WFp_sF16, WFp_sF17, WFp_sF18, WFp_sF19, WFp_sF21, WFp_sF22, WFp_sF23, WFp_sF24, WFp_sF25, WFp_sF28, WFp_sF29, WFp_sF30, WFp_sF31, WFp_sF32, WFp_sF33, WFp_sF38, WFp_sF39, WFp_sF41, WFp_sF42, WFp_sF43, WFp_sF44, WFp_sF45, WFp_sF60, WFp_sF65, WFp_sF66, WFp_sF67, WFp_sF68, WFp_sF70, WFp_sF71, WFp_sF72, WFp_sF73, WFp_sF74, WFp_sF80, WFp_sF81, WFp_sF82, WFp_sF83, WFp_sF88, WFp_sF92, WFp_sF94, WFp_sF96, WFp_sF97, WFp_sF98, WFp_sF99, WFp_sF100, WFp_sF101, WFp_sF103, WFp_sF104, WFp_sF112, WFp_sF113, WFp_sF118, WFp_sF119, WFp_sF122, WFp_sF123, WFp_sF135, WFp_sF137, WFp_sA1, WFp_sA2, WFp_sA5, WFp_sA20, WFp_sA26, WFp_sA27, WFp_sA34, WFp_sA35, WFp_sA36, WFp_sA37, WFp_sA40, WFp_sA46, WFp_sA47, WFp_sA48, WFp_sA51, WFp_sA52, WFp_sA53, WFp_sA54, WFp_sA55, WFp_sA56, WFp_sA57, WFp_sA58, WFp_sA59, WFp_sA61, WFp_sA62, WFp_sA63, WFp_sA64, WFp_sA69, WFp_sA75, WFp_sA76, WFp_sA77, WFp_sA78, WFp_sA79, WFp_sA84, WFp_sA85, WFp_sA86, WFp_sA87, WFp_sA89, WFp_sA90, WFp_sA91, WFp_sA93, WFp_sA102, WFp_sA105, WFp_sA106, WFp_sA107, WFp_sA108, WFp_sA109, WFp_sA110, WFp_sA111, WFp_sA114, WFp_sA115, WFp_sA116, WFp_sA117, WFp_sA120, WFp_sA121, WFp_sA124, WFp_sA125, WFp_sA126, WFp_sA127, WFp_sA128, WFp_sA129, WFp_sA136, WFp_sA138, WFp_gA0, WFp_gA1, WFp_gA2, WFp_gA3, WFp_gA4, WFp_gA5, WFp_gA6, WFp_gA8, WFp_gA10, WFp_gA11, WFp_gA15, WFp_gA16, WFp_gA17, WFp_gA18, WFp_gA19, WFp_gA20, WFp_gA21, WFp_gA22, WFp_gA23, WFp_gA24, WFp_gA25, WFp_gA26, WFp_gA27, WFp_gA29, WFp_gA30, WFp_gA31, WFp_gA33, WFp_gA34, WFp_gA35, WFp_gA36, WFp_gA37, WFp_sF7, WFp_sF9] at *
  (repeat' (first | with_reducible intro _ | with_reducible apply And.intro))
  all_goals (first | assumption | omega | grind (splits := 20) [rNM_sF0])
set_option maxHeartbeats 400000 in
theorem vX14_attribute_98m (σ : rS) (x1 : Int) (hwf : rWF σ) (hx1 : rng x1) (hp : pre_X14_attribute σ x1) : VC_X14_attribute_98m σ x1 := by
  simp only [VC_X14_attribute_98m, pre_X14_attribute, post_X14_attribute, inv_X14_attribute_98, mu_X14_attribute_98, pre_X14_isMade, pre_X14_take, post_X14_isMade, post_X14_take, rng, rfk, rNMp, rF_sF, rF_sA, rF_sL, rF_sR, rA_sA, rA_sF, rA_sL, rA_sR, rR_sF, rR_sA, rR_sL, rR_sR, reduceIte, and_true, true_and, and_false, false_and, and_self, VMp_sL, VMp_sF0, VMp_sF3, VMp_sF10, VMp_sF11, VMp_sF12, VMp_sF13, VMp_sF14, VMp_sF16, VMp_sF17, VMp_sF18, VMp_sF19, VMp_sF21, VMp_sF22, VMp_sF23, VMp_sF24, VMp_sF25, VMp_sF28, VMp_sF29, VMp_sF30, VMp_sF31, VMp_sF32, VMp_sF33, VMp_sF38, VMp_sF39, VMp_sF41, VMp_sF42, VMp_sF43, VMp_sF44, VMp_sF45, VMp_sF60, VMp_sF65, VMp_sF66, VMp_sF67, VMp_sF68, VMp_sF70, VMp_sF71, VMp_sF72, VMp_sF73, VMp_sF74, VMp_sF80, VMp_sF81, VMp_sF82, VMp_sF83, VMp_sF88, VMp_sF92, VMp_sF94, VMp_sF96, VMp_sF97, VMp_sF98, VMp_sF99, VMp_sF100, VMp_sF101, VMp_sF103, VMp_sF104, VMp_sF112, VMp_sF113, VMp_sF118, VMp_sF119, VMp_sF122, VMp_sF123, VMp_sF135, VMp_sF137, VMp_sA1, VMp_sA2, VMp_sA5, VMp_sA20, VMp_sA26, VMp_sA27, VMp_sA34, VMp_sA35, VMp_sA36, VMp_sA37, VMp_sA40, VMp_sA47, VMp_sA48, VMp_sA49, VMp_sA50, VMp_sA52, VMp_sA53, VMp_sA54, VMp_sA55, VMp_sA56, VMp_sA57, VMp_sA58, VMp_sA59, VMp_sA61, VMp_sA62, VMp_sA63, VMp_sA64, VMp_sA69, VMp_sA75, VMp_sA76, VMp_sA77, VMp_sA78, VMp_sA79, VMp_sA84, VMp_sA85, VMp_sA86, VMp_sA87, VMp_sA89, VMp_sA90, VMp_sA91, VMp_sA93, VMp_sA102, VMp_sA105, VMp_sA106, VMp_sA107, VMp_sA108, VMp_sA109, VMp_sA110, VMp_sA111, VMp_sA114, VMp_sA115, VMp_sA116, VMp_sA117, VMp_sA120, VMp_sA121, VMp_sA124, VMp_sA125, VMp_sA126, VMp_sA127, VMp_sA128, VMp_sA129, VMp_sA136, VMp_sA138, VMp_gA0, VMp_gA1, VMp_gA2, VMp_gA3, VMp_gA4, VMp_gA5, VMp_gA6, VMp_gA8, VMp_gA10, VMp_gA11, VMp_gA15, VMp_gA16, VMp_gA17, VMp_gA18, VMp_gA19, VMp_gA20, VMp_gA21, VMp_gA22, VMp_gA23, VMp_gA24, VMp_gA25, VMp_gA26, VMp_gA27, VMp_gA29, VMp_gA30, VMp_gA31, VMp_gA33, VMp_gA34, VMp_gA35, VMp_gA36, VMp_gA37, VMp_sF7, VMp_sF9, KYp_sL, KYp_sF0, KYp_sF3, KYp_sF10, KYp_sF11, KYp_sF12, KYp_sF13, KYp_sF14, KYp_sF16, KYp_sF17, KYp_sF18, KYp_sF19, KYp_sF21, KYp_sF22, KYp_sF23, KYp_sF24, KYp_sF25, KYp_sF28, KYp_sF29, KYp_sF30, KYp_sF31, KYp_sF32, KYp_sF33, KYp_sF38, KYp_sF39, KYp_sF41, KYp_sF42, KYp_sF43, KYp_sF44, KYp_sF45, KYp_sF60, KYp_sF65, KYp_sF66, KYp_sF67, KYp_sF68, KYp_sF70, KYp_sF71, KYp_sF72, KYp_sF73, KYp_sF74, KYp_sF80, KYp_sF81, KYp_sF82, KYp_sF83, KYp_sF88, KYp_sF92, KYp_sF94, KYp_sF96, KYp_sF97, KYp_sF98, KYp_sF99, KYp_sF100, KYp_sF101, KYp_sF103, KYp_sF104, KYp_sF112, KYp_sF113, KYp_sF118, KYp_sF119, KYp_sF122, KYp_sF123, KYp_sF135, KYp_sF137, KYp_sA1, KYp_sA2, KYp_sA5, KYp_sA20, KYp_sA26, KYp_sA27, KYp_sA34, KYp_sA35, KYp_sA36, KYp_sA37, KYp_sA40, KYp_sA46, KYp_sA47, KYp_sA48, KYp_sA49, KYp_sA50, KYp_sA51, KYp_sA52, KYp_sA55, KYp_sA56, KYp_sA57, KYp_sA58, KYp_sA59, KYp_sA61, KYp_sA62, KYp_sA63, KYp_sA64, KYp_sA69, KYp_sA75, KYp_sA76, KYp_sA77, KYp_sA78, KYp_sA79, KYp_sA84, KYp_sA85, KYp_sA86, KYp_sA87, KYp_sA89, KYp_sA90, KYp_sA91, KYp_sA93, KYp_sA102, KYp_sA105, KYp_sA106, KYp_sA107, KYp_sA108, KYp_sA109, KYp_sA110, KYp_sA111, KYp_sA114, KYp_sA115, KYp_sA116, KYp_sA117, KYp_sA120, KYp_sA121, KYp_sA124, KYp_sA125, KYp_sA126, KYp_sA127, KYp_sA128, KYp_sA129, KYp_sA136, KYp_sA138, KYp_gA0, KYp_gA1, KYp_gA2, KYp_gA3, KYp_gA4, KYp_gA5, KYp_gA6, KYp_gA8, KYp_gA10, KYp_gA11, KYp_gA15, KYp_gA16, KYp_gA17, KYp_gA18, KYp_gA19, KYp_gA20, KYp_gA21, KYp_gA22, KYp_gA23, KYp_gA24, KYp_gA25, KYp_gA26, KYp_gA27, KYp_gA29, KYp_gA30, KYp_gA31, KYp_gA33, KYp_gA34, KYp_gA35, KYp_gA36, KYp_gA37, KYp_sF7, KYp_sF9, PPp_sL, PPp_sF0, PPp_sF3, PPp_sF10, PPp_sF11, PPp_sF12, PPp_sF13, PPp_sF14, PPp_sF16, PPp_sF17, PPp_sF18, PPp_sF19, PPp_sF21, PPp_sF22, PPp_sF23, PPp_sF24, PPp_sF25, PPp_sF28, PPp_sF29, PPp_sF30, PPp_sF31, PPp_sF32, PPp_sF33, PPp_sF38, PPp_sF39, PPp_sF41, PPp_sF42, PPp_sF43, PPp_sF44, PPp_sF45, PPp_sF60, PPp_sF65, PPp_sF66, PPp_sF67, PPp_sF68, PPp_sF70, PPp_sF71, PPp_sF72, PPp_sF73, PPp_sF74, PPp_sF80, PPp_sF81, PPp_sF82, PPp_sF83, PPp_sF88, PPp_sF92, PPp_sF94, PPp_sF96, PPp_sF97, PPp_sF98, PPp_sF99, PPp_sF100, PPp_sF101, PPp_sF103, PPp_sF104, PPp_sF112, PPp_sF113, PPp_sF118, PPp_sF119, PPp_sF122, PPp_sF123, PPp_sF135, PPp_sF137, PPp_sA1, PPp_sA2, PPp_sA5, PPp_sA20, PPp_sA26, PPp_sA27, PPp_sA34, PPp_sA35, PPp_sA36, PPp_sA37, PPp_sA40, PPp_sA46, PPp_sA47, PPp_sA48, PPp_sA49, PPp_sA50, PPp_sA51, PPp_sA52, PPp_sA53, PPp_sA54, PPp_sA55, PPp_sA58, PPp_sA59, PPp_sA61, PPp_sA62, PPp_sA63, PPp_sA64, PPp_sA69, PPp_sA75, PPp_sA76, PPp_sA77, PPp_sA78, PPp_sA79, PPp_sA84, PPp_sA85, PPp_sA86, PPp_sA87, PPp_sA89, PPp_sA90, PPp_sA91, PPp_sA93, PPp_sA102, PPp_sA105, PPp_sA106, PPp_sA107, PPp_sA108, PPp_sA109, PPp_sA110, PPp_sA111, PPp_sA114, PPp_sA115, PPp_sA116, PPp_sA117, PPp_sA120, PPp_sA121, PPp_sA124, PPp_sA125, PPp_sA126, PPp_sA127, PPp_sA128, PPp_sA129, PPp_sA136, PPp_sA138, PPp_gA0, PPp_gA1, PPp_gA2, PPp_gA3, PPp_gA4, PPp_gA5, PPp_gA6, PPp_gA8, PPp_gA10, PPp_gA11, PPp_gA15, PPp_gA16, PPp_gA17, PPp_gA18, PPp_gA19, PPp_gA20, PPp_gA21, PPp_gA22, PPp_gA23, PPp_gA24, PPp_gA25, PPp_gA26, PPp_gA27, PPp_gA29, PPp_gA30, PPp_gA31, PPp_gA33, PPp_gA34, PPp_gA35, PPp_gA36, PPp_gA37, PPp_sF7, PPp_sF9, WFp_sL, WFp_sF0, WFp_sF3, WFp_sF10, WFp_sF11, WFp_sF12, WFp_sF13, WFp_sF14, WFp_sF16, WFp_sF17, WFp_sF18, WFp_sF19, WFp_sF21, WFp_sF22, WFp_sF23, WFp_sF24, WFp_sF25, WFp_sF28, WFp_sF29, WFp_sF30, WFp_sF31, WFp_sF32, WFp_sF33, WFp_sF38, WFp_sF39, WFp_sF41, WFp_sF42, WFp_sF43, WFp_sF44, WFp_sF45, WFp_sF60, WFp_sF65, WFp_sF66, WFp_sF67, WFp_sF68, WFp_sF70, WFp_sF71, WFp_sF72, WFp_sF73, WFp_sF74, WFp_sF80, WFp_sF81, WFp_sF82, WFp_sF83, WFp_sF88, WFp_sF92, WFp_sF94, WFp_sF96, WFp_sF97, WFp_sF98, WFp_sF99, WFp_sF100, WFp_sF101, WFp_sF103, WFp_sF104, WFp_sF112, WFp_sF113, WFp_sF118, WFp_sF119, WFp_sF122, WFp_sF123, WFp_sF135, WFp_sF137, WFp_sA1, WFp_sA2, WFp_sA5, WFp_sA20, WFp_sA26, WFp_sA27, WFp_sA34, WFp_sA35, WFp_sA36, WFp_sA37, WFp_sA40, WFp_sA46, WFp_sA47, WFp_sA48, WFp_sA51, WFp_sA52, WFp_sA53, WFp_sA54, WFp_sA55, WFp_sA56, WFp_sA57, WFp_sA58, WFp_sA59, WFp_sA61, WFp_sA62, WFp_sA63, WFp_sA64, WFp_sA69, WFp_sA75, WFp_sA76, WFp_sA77, WFp_sA78, WFp_sA79, WFp_sA84, WFp_sA85, WFp_sA86, WFp_sA87, WFp_sA89, WFp_sA90, WFp_sA91, WFp_sA93, WFp_sA102, WFp_sA105, WFp_sA106, WFp_sA107, WFp_sA108, WFp_sA109, WFp_sA110, WFp_sA111, WFp_sA114, WFp_sA115, WFp_sA116, WFp_sA117, WFp_sA120, WFp_sA121, WFp_sA124, WFp_sA125, WFp_sA126, WFp_sA127, WFp_sA128, WFp_sA129, WFp_sA136, WFp_sA138, WFp_gA0, WFp_gA1, WFp_gA2, WFp_gA3, WFp_gA4, WFp_gA5, WFp_gA6, WFp_gA8, WFp_gA10, WFp_gA11, WFp_gA15, WFp_gA16, WFp_gA17, WFp_gA18, WFp_gA19, WFp_gA20, WFp_gA21, WFp_gA22, WFp_gA23, WFp_gA24, WFp_gA25, WFp_gA26, WFp_gA27, WFp_gA29, WFp_gA30, WFp_gA31, WFp_gA33, WFp_gA34, WFp_gA35, WFp_gA36, WFp_gA37, WFp_sF7, WFp_sF9] at *
  (repeat' (first | with_reducible intro _ | with_reducible apply And.intro))
  all_goals (first | assumption | omega | grind (splits := 20) [rNM_sF0])
theorem wX14_attribute (l : Launch) (G : zG) (κ : Nat → Nat) (σ : rS) (x1 : Int) (hwf : rWF σ) (hx1 : rng x1) (Q : Int → rS → Prop) (h : VC_X14_attribute σ x1 Q) (h_98 : VC_X14_attribute_98 σ x1 Q) (h_98m : VC_X14_attribute_98m σ x1) : rMi l G κ yX14_attribute cX14_attribute 3 .int 2 20 [.ref (κ 0), iv x1] σ (fun x s => rKeep 0x41000000000000009 0 0x1e000000000000000 0 0 σ s ∧ Q x s) := by
  refine zMi.intro (by decide +kernel) (Nat.le_of_ble_eq_true rfl) (fun X hC hR => ?_)
  refine z_aload_n hC (pc := 0) 0 dX14_attribute_0 rfl rfl ?_
  refine z_iconst hC (pc := 1) (v := Int32.ofInt 0) dX14_attribute_1 (by decide) ?_
  refine y_putI hC (pc := 2) zf14 rOb_0 0 (x := 0) dX14_attribute_2 zw2468 (Or.inl rfl) rfl rfl (kk := ?_)
  have W10 := hwf.sF (q := 0) (f := 0) (x := 0) (r_lit rfl)
  refine z_aload_n hC (pc := 5) 0 dX14_attribute_5 rfl rfl ?_
  obtain ⟨p11, h⟩ := h
  refine y_callVv hC (pc := 6) (As := []) (kX14_take l G κ (sF σ 0 0 0)  W10  p11) dmX14_take zf14 rOb_0 dX14_attribute_6 zw2905 rfl rfl (Nat.le_of_ble_eq_true rfl) (Nat.le_of_ble_eq_true rfl) (Nat.le_of_ble_eq_true rfl) (Nat.le_of_ble_eq_true rfl) (Nat.le_of_ble_eq_true rfl) (kk := fun s12 Ws12 qs12 => ?_)
  have h := h s12 Ws12 (VMp.keep qs12.1 rfl rfl) (KYp.keep qs12.1 rfl rfl) (PPp.keep qs12.1 rfl rfl) (WFp.keep qs12.1 rfl rfl) (qs12.1.F rfl) (qs12.1.F rfl) (qs12.1.F rfl) (qs12.1.F rfl) qs12.2
  refine z_aload_n hC (pc := 9) 0 dX14_attribute_9 rfl rfl ?_
  obtain ⟨p14, h⟩ := h
  refine y_callVi hC (pc := 10) (As := []) (kX14_isMade l G κ s12  Ws12  p14) dmX14_isMade zf14 rOb_0 dX14_attribute_10 zw2893 rfl rfl (Nat.le_of_ble_eq_true rfl) (Nat.le_of_ble_eq_true rfl) (Nat.le_of_ble_eq_true rfl) (Nat.le_of_ble_eq_true rfl) (Nat.le_of_ble_eq_true rfl) (kk := fun x16 s15 hx16 Ws15 qs15 => ?_)
  obtain ⟨es15, qs15⟩ := qs15
  have es15 := es15.symm
  subst es15
  have h := h x16 hx16 qs15
  obtain ⟨hT, hF⟩ := h
  refine y_if_ne hC (pc := 13) 55 hx16 dX14_attribute_13 (by decide) (fun c => ?_) (fun c => ?_)
  · have h := hT c
    refine z_iconst hC (pc := 55) (v := Int32.ofInt (-1)) dX14_attribute_55 (by decide) ?_
    exact y_reti hR dX14_attribute_56 rfl (r_lit rfl) Ws12 (Nat.le_of_ble_eq_true rfl) (Nat.le_of_ble_eq_true rfl) ⟨(rKeep.tr (rKeep.tr rKeep.rf (rKeep.sF0 (f := 0)) rfl rfl rfl rfl rfl) qs12.1 rfl rfl rfl rfl rfl), h⟩
  · have h := hF c
    refine z_iload_n hC (pc := 16) 1 dX14_attribute_16 rfl rfl ?_
    refine z_iconst hC (pc := 17) (v := Int32.ofInt (-1)) dX14_attribute_17 (by decide) ?_
    obtain ⟨hT, hF⟩ := h
    refine y_icmp_lt hC (pc := 18) 55 hx1 (r_lit rfl) dX14_attribute_18 (by decide) (fun c => ?_) (fun c => ?_)
    · have h := hT c
      refine z_iconst hC (pc := 55) (v := Int32.ofInt (-1)) dX14_attribute_55 (by decide) ?_
      exact y_reti hR dX14_attribute_56 rfl (r_lit rfl) Ws12 (Nat.le_of_ble_eq_true rfl) (Nat.le_of_ble_eq_true rfl) ⟨(rKeep.tr (rKeep.tr rKeep.rf (rKeep.sF0 (f := 0)) rfl rfl rfl rfl rfl) qs12.1 rfl rfl rfl rfl rfl), h⟩
    · have h := hF c
      refine z_iload_n hC (pc := 21) 1 dX14_attribute_21 rfl rfl ?_
      refine z_aload_n hC (pc := 22) 0 dX14_attribute_22 rfl rfl ?_
      refine y_get hC (pc := 23) zf14 rOb_0 43 (v := iv (rF s12 0 43)) dX14_attribute_23 zw2510 (rv_i (Or.inl rfl) rfl) (kk := ?_)
      have h := h (Ws12.f _ _)
      obtain ⟨hT, hF⟩ := h
      refine y_icmp_ge hC (pc := 26) 55 hx1 (Ws12.f _ _) dX14_attribute_26 (by decide) (fun c => ?_) (fun c => ?_)
      · have h := hT c
        refine z_iconst hC (pc := 55) (v := Int32.ofInt (-1)) dX14_attribute_55 (by decide) ?_
        exact y_reti hR dX14_attribute_56 rfl (r_lit rfl) Ws12 (Nat.le_of_ble_eq_true rfl) (Nat.le_of_ble_eq_true rfl) ⟨(rKeep.tr (rKeep.tr rKeep.rf (rKeep.sF0 (f := 0)) rfl rfl rfl rfl rfl) qs12.1 rfl rfl rfl rfl rfl), h⟩
      · have h := hF c
        refine z_aload_n hC (pc := 29) 0 dX14_attribute_29 rfl rfl ?_
        refine y_get hC (pc := 30) zf14 rOb_0 66 (v := iv (rF s12 0 66)) dX14_attribute_30 zw2533 (rv_i (Or.inl rfl) rfl) (kk := ?_)
        have h := h (Ws12.f _ _)
        refine z_iconst hC (pc := 33) (v := Int32.ofInt 1) dX14_attribute_33 (by decide) ?_
        obtain ⟨hT, hF⟩ := h
        refine y_icmp_lt hC (pc := 34) 55 (Ws12.f _ _) (r_lit rfl) dX14_attribute_34 (by decide) (fun c => ?_) (fun c => ?_)
        · have h := hT c
          refine z_iconst hC (pc := 55) (v := Int32.ofInt (-1)) dX14_attribute_55 (by decide) ?_
          exact y_reti hR dX14_attribute_56 rfl (r_lit rfl) Ws12 (Nat.le_of_ble_eq_true rfl) (Nat.le_of_ble_eq_true rfl) ⟨(rKeep.tr (rKeep.tr rKeep.rf (rKeep.sF0 (f := 0)) rfl rfl rfl rfl rfl) qs12.1 rfl rfl rfl rfl rfl), h⟩
        · have h := hF c
          refine z_aload_n hC (pc := 37) 0 dX14_attribute_37 rfl rfl ?_
          refine y_get hC (pc := 38) zf14 rOb_0 66 (v := iv (rF s12 0 66)) dX14_attribute_38 zw2533 (rv_i (Or.inl rfl) rfl) (kk := ?_)
          refine z_bipush hC (pc := 41) (v := Int32.ofInt 16) dX14_attribute_41 (by decide) ?_
          obtain ⟨hT, hF⟩ := h
          refine y_icmp_gt hC (pc := 43) 55 (Ws12.f _ _) (r_lit rfl) dX14_attribute_43 (by decide) (fun c => ?_) (fun c => ?_)
          · have h := hT c
            refine z_iconst hC (pc := 55) (v := Int32.ofInt (-1)) dX14_attribute_55 (by decide) ?_
            exact y_reti hR dX14_attribute_56 rfl (r_lit rfl) Ws12 (Nat.le_of_ble_eq_true rfl) (Nat.le_of_ble_eq_true rfl) ⟨(rKeep.tr (rKeep.tr rKeep.rf (rKeep.sF0 (f := 0)) rfl rfl rfl rfl rfl) qs12.1 rfl rfl rfl rfl rfl), h⟩
          · have h := hF c
            refine z_aload_n hC (pc := 46) 0 dX14_attribute_46 rfl rfl ?_
            refine y_get hC (pc := 47) zf14 rOb_0 60 (v := iv (rF s12 0 60)) dX14_attribute_47 zw2527 (rv_i (Or.inl rfl) rfl) (kk := ?_)
            have h := h (Ws12.f _ _)
            refine z_bipush hC (pc := 50) (v := Int32.ofInt 40) dX14_attribute_50 (by decide) ?_
            obtain ⟨hT, hF⟩ := h
            refine y_icmp_ne hC (pc := 52) 57 (Ws12.f _ _) (r_lit rfl) dX14_attribute_52 (by decide) (fun c => ?_) (fun c => ?_)
            · have h := hT c
              refine z_aload_n hC (pc := 57) 0 dX14_attribute_57 rfl rfl ?_
              refine y_get hC (pc := 58) zf14 rOb_0 61 (v := .ref (κ 1061)) dX14_attribute_58 zw2528 (rv_c rfl) (kk := ?_)
              refine z_aload_n hC (pc := 61) 0 dX14_attribute_61 rfl rfl ?_
              refine y_get hC (pc := 62) zf14 rOb_0 60 (v := iv (rF s12 0 60)) dX14_attribute_62 zw2527 (rv_i (Or.inl rfl) rfl) (kk := ?_)
              refine z_bipush hC (pc := 65) (v := Int32.ofInt 16) dX14_attribute_65 (by decide) ?_
              refine z_aload_n hC (pc := 67) 0 dX14_attribute_67 rfl rfl ?_
              refine y_get hC (pc := 68) zf14 rOb_0 60 (v := iv (rF s12 0 60)) dX14_attribute_68 zw2527 (rv_i (Or.inl rfl) rfl) (kk := ?_)
              refine y_imul hC (pc := 71) (v := (16 * (rF s12 0 60))) dX14_attribute_71 rfl ?_
              obtain ⟨b17, h⟩ := h
              obtain ⟨r18, h⟩ := h
              refine y_iast hC (pc := 72) (rAr_m rfl) dX14_attribute_72 b17 (v := (16 * (rF s12 0 60))) (kk := ?_)
              have W19 := Ws12.sA (p := 1061) (i := (rF s12 0 60)) (x := (16 * (rF s12 0 60))) r18
              refine z_aload_n hC (pc := 73) 0 dX14_attribute_73 rfl rfl ?_
              refine y_get hC (pc := 74) zf14 rOb_0 62 (v := .ref (κ 1062)) dX14_attribute_74 zw2529 (rv_c rfl) (kk := ?_)
              refine z_aload_n hC (pc := 77) 0 dX14_attribute_77 rfl rfl ?_
              refine y_get hC (pc := 78) zf14 rOb_0 60 (v := iv (rF s12 0 60)) dX14_attribute_78 zw2527 (rv_i (Or.inl rfl) rfl) (kk := ?_)
              refine z_aload_n hC (pc := 81) 0 dX14_attribute_81 rfl rfl ?_
              refine y_get hC (pc := 82) zf14 rOb_0 66 (v := iv (rF s12 0 66)) dX14_attribute_82 zw2533 (rv_i (Or.inl rfl) rfl) (kk := ?_)
              obtain ⟨b20, h⟩ := h
              refine y_iast hC (pc := 85) (rAr_m rfl) dX14_attribute_85 b20 (v := (rF s12 0 66)) (kk := ?_)
              have W21 := W19.sA (p := 1062) (i := (rF s12 0 60)) (x := (rF s12 0 66)) (Ws12.f _ _)
              refine z_aload_n hC (pc := 86) 0 dX14_attribute_86 rfl rfl ?_
              refine y_get hC (pc := 87) zf14 rOb_0 63 (v := .ref (κ 1063)) dX14_attribute_87 zw2530 (rv_c rfl) (kk := ?_)
              refine z_aload_n hC (pc := 90) 0 dX14_attribute_90 rfl rfl ?_
              refine y_get hC (pc := 91) zf14 rOb_0 60 (v := iv (rF s12 0 60)) dX14_attribute_91 zw2527 (rv_i (Or.inl rfl) rfl) (kk := ?_)
              refine z_iload_n hC (pc := 94) 1 dX14_attribute_94 rfl rfl ?_
              obtain ⟨b22, h⟩ := h
              refine y_iast hC (pc := 95) (rAr_m rfl) dX14_attribute_95 b22 (v := x1) (kk := ?_)
              have W23 := W21.sA (p := 1063) (i := (rF s12 0 60)) (x := x1) hx1
              refine z_iconst hC (pc := 96) (v := Int32.ofInt 0) dX14_attribute_96 (by decide) ?_
              refine z_istore_n hC (pc := 97) (lv' := [(2, iv 0), (0, .ref (κ 0)), (1, iv x1)]) dX14_attribute_97 rfl (by decide) rfl ?_
              have j98 : ∀ (d98 : Nat), ∀ (s24 : rS) (y25 : Int), rWF s24 → rng y25 → rKeep 0x41000000000000009 0 0x1e000000000000000 0 0 σ s24 → inv_X14_attribute_98 σ x1 s24 y25 → (mu_X14_attribute_98 σ x1 s24 y25) ≤ d98 → zS X G 3 (rW G κ s24) [(0, .ref (κ 0)), (2, iv y25)] 0 0 98 [] := by
                intro d98
                induction d98 with
                | zero =>
                  intro s24 y25 Ws24 hy25 kJ hI hmu
                  exact absurd hmu (by have := h_98m  s24 y25 Ws24 hy25 (VMp.keep kJ rfl rfl) (KYp.keep kJ rfl rfl) (PPp.keep kJ rfl rfl) (WFp.keep kJ rfl rfl) (kJ.F rfl) (kJ.F rfl) (kJ.F rfl) hI; omega)
                | succ d98 ih98 =>
                  intro s24 y25 Ws24 hy25 kJ hI hmu98
                  have h := h_98  s24 y25 Ws24 hy25 (VMp.keep kJ rfl rfl) (KYp.keep kJ rfl rfl) (PPp.keep kJ rfl rfl) (WFp.keep kJ rfl rfl) (kJ.F rfl) (kJ.F rfl) (kJ.F rfl) hI
                  refine z_iload_n hC (pc := 98) 1 dX14_attribute_98 rfl rfl ?_
                  refine z_aload_n hC (pc := 99) 0 dX14_attribute_99 rfl rfl ?_
                  refine y_get hC (pc := 100) zf14 rOb_0 66 (v := iv (rF s24 0 66)) dX14_attribute_100 zw2533 (rv_i (Or.inl rfl) rfl) (kk := ?_)
                  have h := h (Ws24.f _ _)
                  obtain ⟨hT, hF⟩ := h
                  refine y_icmp_ge hC (pc := 103) 132 hy25 (Ws24.f _ _) dX14_attribute_103 (by decide) (fun c => ?_) (fun c => ?_)
                  · have h := hT c
                    refine z_aload_n hC (pc := 132) 0 dX14_attribute_132 rfl rfl ?_
                    refine z_dup hC (pc := 133) dX14_attribute_133 rfl ?_
                    refine y_get hC (pc := 134) zf14 rOb_0 60 (v := iv (rF s24 0 60)) dX14_attribute_134 zw2527 (rv_i (Or.inl rfl) rfl) (kk := ?_)
                    have h := h (Ws24.f _ _)
                    refine z_iconst hC (pc := 137) (v := Int32.ofInt 1) dX14_attribute_137 (by decide) ?_
                    refine y_iadd hC (pc := 138) (v := ((rF s24 0 60) + 1)) dX14_attribute_138 rfl ?_
                    obtain ⟨r26, h⟩ := h
                    refine y_putI hC (pc := 139) zf14 rOb_0 60 (x := ((rF s24 0 60) + 1)) dX14_attribute_139 zw2527 (Or.inl rfl) rfl rfl (kk := ?_)
                    have W27 := Ws24.sF (q := 0) (f := 60) (x := ((rF s24 0 60) + 1)) r26
                    refine z_aload_n hC (pc := 142) 0 dX14_attribute_142 rfl rfl ?_
                    refine y_get hC (pc := 143) zf14 rOb_0 60 (v := iv ((rF s24 0 60) + 1)) dX14_attribute_143 zw2527 (rv_i (Or.inl rfl) (F_sF _ _ _ _)) (kk := ?_)
                    exact y_reti hR dX14_attribute_146 rfl r26 W27 (Nat.le_of_ble_eq_true rfl) (Nat.le_of_ble_eq_true rfl) ⟨(rKeep.tr (rKeep.tr rKeep.rf kJ rfl rfl rfl rfl rfl) (rKeep.sF0 (f := 60)) rfl rfl rfl rfl rfl), h⟩
                  · have h := hF c
                    refine z_aload_n hC (pc := 106) 0 dX14_attribute_106 rfl rfl ?_
                    refine y_get hC (pc := 107) zf14 rOb_0 64 (v := .ref (κ 1064)) dX14_attribute_107 zw2531 (rv_c rfl) (kk := ?_)
                    refine z_bipush hC (pc := 110) (v := Int32.ofInt 16) dX14_attribute_110 (by decide) ?_
                    refine z_aload_n hC (pc := 112) 0 dX14_attribute_112 rfl rfl ?_
                    refine y_get hC (pc := 113) zf14 rOb_0 60 (v := iv (rF s24 0 60)) dX14_attribute_113 zw2527 (rv_i (Or.inl rfl) rfl) (kk := ?_)
                    have h := h (Ws24.f _ _)
                    refine y_imul hC (pc := 116) (v := (16 * (rF s24 0 60))) dX14_attribute_116 rfl ?_
                    refine z_iload_n hC (pc := 117) 1 dX14_attribute_117 rfl rfl ?_
                    refine y_iadd hC (pc := 118) (v := ((16 * (rF s24 0 60)) + y25)) dX14_attribute_118 rfl ?_
                    refine z_aload_n hC (pc := 119) 0 dX14_attribute_119 rfl rfl ?_
                    refine y_get hC (pc := 120) zf14 rOb_0 2 (v := .ref (κ 1002)) dX14_attribute_120 zw2470 (rv_c rfl) (kk := ?_)
                    refine z_iload_n hC (pc := 123) 1 dX14_attribute_123 rfl rfl ?_
                    obtain ⟨b28, h⟩ := h
                    refine y_bald hC (pc := 124) (rAr_m rfl) dX14_attribute_124 b28 (v := (rA s24 1002 y25)) rfl (kk := ?_)
                    have h := h (Ws24.a _ _)
                    obtain ⟨b29, h⟩ := h
                    refine y_bast hC (pc := 125) (rAr_m rfl) dX14_attribute_125 b29 (v := (rA s24 1002 y25)) (kk := ?_)
                    have W30 := Ws24.sA (p := 1064) (i := ((16 * (rF s24 0 60)) + y25)) (x := (inar .byte (rA s24 1002 y25))) (inar_rng _ _)
                    refine y_iinc hC (pc := 126) (v := (y25 + 1)) (lv' := [(2, iv (y25 + 1)), (0, .ref (κ 0))]) 1 dX14_attribute_126 rfl rfl (by decide) rfl ?_
                    refine z_goto hC (pc := 129) 98 dX14_attribute_129 (by decide) ?_
                    refine z_lvs [1, 0] rfl ?_
                    obtain ⟨r31, h⟩ := h
                    obtain ⟨hI, hm⟩ := h
                    exact ih98 (sA s24 1064 ((16 * (rF s24 0 60)) + y25) (inar .byte (rA s24 1002 y25))) (y25 + 1) W30 r31 (rKeep.tr (rKeep.tr rKeep.rf kJ rfl rfl rfl rfl rfl) (rKeep.sA0 (f := 64) (by decide)) rfl rfl rfl rfl rfl) hI (by omega)
              refine z_lvs [1, 0] rfl ?_
              exact j98 _ (sA (sA (sA s12 1061 (rF s12 0 60) (16 * (rF s12 0 60))) 1062 (rF s12 0 60) (rF s12 0 66)) 1063 (rF s12 0 60) x1) 0 W23 (r_lit rfl) (rKeep.tr (rKeep.tr (rKeep.tr (rKeep.tr (rKeep.tr rKeep.rf (rKeep.sF0 (f := 0)) rfl rfl rfl rfl rfl) qs12.1 rfl rfl rfl rfl rfl) (rKeep.sA0 (f := 61) (by decide)) rfl rfl rfl rfl rfl) (rKeep.sA0 (f := 62) (by decide)) rfl rfl rfl rfl rfl) (rKeep.sA0 (f := 63) (by decide)) rfl rfl rfl rfl rfl) h (Nat.le_refl _)
            · have h := hF c
              refine z_iconst hC (pc := 55) (v := Int32.ofInt (-1)) dX14_attribute_55 (by decide) ?_
              exact y_reti hR dX14_attribute_56 rfl (r_lit rfl) Ws12 (Nat.le_of_ble_eq_true rfl) (Nat.le_of_ble_eq_true rfl) ⟨(rKeep.tr (rKeep.tr rKeep.rf (rKeep.sF0 (f := 0)) rfl rfl rfl rfl rfl) qs12.1 rfl rfl rfl rfl rfl), h⟩
theorem kX14_attribute (l : Launch) (G : zG) (κ : Nat → Nat) (σ : rS) (x1 : Int) (hwf : rWF σ) (hx1 : rng x1) (hp : pre_X14_attribute σ x1) : rMi l G κ yX14_attribute cX14_attribute 3 .int 2 20 [.ref (κ 0), iv x1] σ (fun x s => rKeep 0x41000000000000009 0 0x1e000000000000000 0 0 σ s ∧ post_X14_attribute σ x1 x s) := wX14_attribute l G κ σ x1 hwf hx1 (post_X14_attribute σ x1) (vX14_attribute σ x1 hwf hx1 hp) (vX14_attribute_98 σ x1 hwf hx1 hp) (vX14_attribute_98m σ x1 hwf hx1 hp)
def pre_X14_clear (σ : rS)  : Prop := 0 ≤ (rF σ 0 43) ∧ (rF σ 0 43) ≤ 500 ∧ 0 ≤ (rF σ 0 45) ∧ (rF σ 0 45) ≤ 16000 ∧ 0 ≤ (rF σ 0 44) ∧ (rF σ 0 44) ≤ 4000 ∧ 0 ≤ (rF σ 0 60) ∧ (rF σ 0 60) ≤ 40 ∧ 0 ≤ (rF σ 0 3) ∧ (rF σ 0 3) ≤ 4000 ∧ VMp σ ∧ KYp σ ∧ PPp σ ∧ WFp σ
def post_X14_clear (σ : rS)  (r : Int) (σ' : rS) : Prop := 0 ≤ (rF σ' 0 43) ∧ (rF σ' 0 43) ≤ 500 ∧ 0 ≤ (rF σ' 0 45) ∧ (rF σ' 0 45) ≤ 16000 ∧ 0 ≤ (rF σ' 0 44) ∧ (rF σ' 0 44) ≤ 4000 ∧ 0 ≤ (rF σ' 0 60) ∧ (rF σ' 0 60) ≤ 40 ∧ 0 ≤ (rF σ' 0 3) ∧ (rF σ' 0 3) ≤ 4000 ∧ VMp σ' ∧ KYp σ' ∧ PPp σ' ∧ WFp σ'
def VC_X14_clear (σ : rS) (Q : Int → rS → Prop) : Prop := pre_X14_isMade (sF σ 0 0 0) ∧ (∀ (x13 : Int), rng x13 → post_X14_isMade (sF σ 0 0 0) x13 → ((x13 = 0 → Q 1 (sF (sF σ 0 0 0) 0 60 0)) ∧ (¬ x13 = 0 → Q 0 (sF σ 0 0 0))))
set_option maxHeartbeats 400000 in
theorem vX14_clear (σ : rS) (hwf : rWF σ) (hp : pre_X14_clear σ ) : VC_X14_clear σ (post_X14_clear σ ) := by
  simp only [VC_X14_clear, pre_X14_clear, post_X14_clear, pre_X14_isMade, post_X14_isMade, rng, rfk, rNMp, rF_sF, rF_sA, rF_sL, rF_sR, rA_sA, rA_sF, rA_sL, rA_sR, rR_sF, rR_sA, rR_sL, rR_sR, reduceIte, and_true, true_and, and_false, false_and, and_self, VMp_sL, VMp_sF0, VMp_sF3, VMp_sF10, VMp_sF11, VMp_sF12, VMp_sF13, VMp_sF14, VMp_sF16, VMp_sF17, VMp_sF18, VMp_sF19, VMp_sF21, VMp_sF22, VMp_sF23, VMp_sF24, VMp_sF25, VMp_sF28, VMp_sF29, VMp_sF30, VMp_sF31, VMp_sF32, VMp_sF33, VMp_sF38, VMp_sF39, VMp_sF41, VMp_sF42, VMp_sF43, VMp_sF44, VMp_sF45, VMp_sF60, VMp_sF65, VMp_sF66, VMp_sF67, VMp_sF68, VMp_sF70, VMp_sF71, VMp_sF72, VMp_sF73, VMp_sF74, VMp_sF80, VMp_sF81, VMp_sF82, VMp_sF83, VMp_sF88, VMp_sF92, VMp_sF94, VMp_sF96, VMp_sF97, VMp_sF98, VMp_sF99, VMp_sF100, VMp_sF101, VMp_sF103, VMp_sF104, VMp_sF112, VMp_sF113, VMp_sF118, VMp_sF119, VMp_sF122, VMp_sF123, VMp_sF135, VMp_sF137, VMp_sA1, VMp_sA2, VMp_sA5, VMp_sA20, VMp_sA26, VMp_sA27, VMp_sA34, VMp_sA35, VMp_sA36, VMp_sA37, VMp_sA40, VMp_sA47, VMp_sA48, VMp_sA49, VMp_sA50, VMp_sA52, VMp_sA53, VMp_sA54, VMp_sA55, VMp_sA56, VMp_sA57, VMp_sA58, VMp_sA59, VMp_sA61, VMp_sA62, VMp_sA63, VMp_sA64, VMp_sA69, VMp_sA75, VMp_sA76, VMp_sA77, VMp_sA78, VMp_sA79, VMp_sA84, VMp_sA85, VMp_sA86, VMp_sA87, VMp_sA89, VMp_sA90, VMp_sA91, VMp_sA93, VMp_sA102, VMp_sA105, VMp_sA106, VMp_sA107, VMp_sA108, VMp_sA109, VMp_sA110, VMp_sA111, VMp_sA114, VMp_sA115, VMp_sA116, VMp_sA117, VMp_sA120, VMp_sA121, VMp_sA124, VMp_sA125, VMp_sA126, VMp_sA127, VMp_sA128, VMp_sA129, VMp_sA136, VMp_sA138, VMp_gA0, VMp_gA1, VMp_gA2, VMp_gA3, VMp_gA4, VMp_gA5, VMp_gA6, VMp_gA8, VMp_gA10, VMp_gA11, VMp_gA15, VMp_gA16, VMp_gA17, VMp_gA18, VMp_gA19, VMp_gA20, VMp_gA21, VMp_gA22, VMp_gA23, VMp_gA24, VMp_gA25, VMp_gA26, VMp_gA27, VMp_gA29, VMp_gA30, VMp_gA31, VMp_gA33, VMp_gA34, VMp_gA35, VMp_gA36, VMp_gA37, VMp_sF7, VMp_sF9, KYp_sL, KYp_sF0, KYp_sF3, KYp_sF10, KYp_sF11, KYp_sF12, KYp_sF13, KYp_sF14, KYp_sF16, KYp_sF17, KYp_sF18, KYp_sF19, KYp_sF21, KYp_sF22, KYp_sF23, KYp_sF24, KYp_sF25, KYp_sF28, KYp_sF29, KYp_sF30, KYp_sF31, KYp_sF32, KYp_sF33, KYp_sF38, KYp_sF39, KYp_sF41, KYp_sF42, KYp_sF43, KYp_sF44, KYp_sF45, KYp_sF60, KYp_sF65, KYp_sF66, KYp_sF67, KYp_sF68, KYp_sF70, KYp_sF71, KYp_sF72, KYp_sF73, KYp_sF74, KYp_sF80, KYp_sF81, KYp_sF82, KYp_sF83, KYp_sF88, KYp_sF92, KYp_sF94, KYp_sF96, KYp_sF97, KYp_sF98, KYp_sF99, KYp_sF100, KYp_sF101, KYp_sF103, KYp_sF104, KYp_sF112, KYp_sF113, KYp_sF118, KYp_sF119, KYp_sF122, KYp_sF123, KYp_sF135, KYp_sF137, KYp_sA1, KYp_sA2, KYp_sA5, KYp_sA20, KYp_sA26, KYp_sA27, KYp_sA34, KYp_sA35, KYp_sA36, KYp_sA37, KYp_sA40, KYp_sA46, KYp_sA47, KYp_sA48, KYp_sA49, KYp_sA50, KYp_sA51, KYp_sA52, KYp_sA55, KYp_sA56, KYp_sA57, KYp_sA58, KYp_sA59, KYp_sA61, KYp_sA62, KYp_sA63, KYp_sA64, KYp_sA69, KYp_sA75, KYp_sA76, KYp_sA77, KYp_sA78, KYp_sA79, KYp_sA84, KYp_sA85, KYp_sA86, KYp_sA87, KYp_sA89, KYp_sA90, KYp_sA91, KYp_sA93, KYp_sA102, KYp_sA105, KYp_sA106, KYp_sA107, KYp_sA108, KYp_sA109, KYp_sA110, KYp_sA111, KYp_sA114, KYp_sA115, KYp_sA116, KYp_sA117, KYp_sA120, KYp_sA121, KYp_sA124, KYp_sA125, KYp_sA126, KYp_sA127, KYp_sA128, KYp_sA129, KYp_sA136, KYp_sA138, KYp_gA0, KYp_gA1, KYp_gA2, KYp_gA3, KYp_gA4, KYp_gA5, KYp_gA6, KYp_gA8, KYp_gA10, KYp_gA11, KYp_gA15, KYp_gA16, KYp_gA17, KYp_gA18, KYp_gA19, KYp_gA20, KYp_gA21, KYp_gA22, KYp_gA23, KYp_gA24, KYp_gA25, KYp_gA26, KYp_gA27, KYp_gA29, KYp_gA30, KYp_gA31, KYp_gA33, KYp_gA34, KYp_gA35, KYp_gA36, KYp_gA37, KYp_sF7, KYp_sF9, PPp_sL, PPp_sF0, PPp_sF3, PPp_sF10, PPp_sF11, PPp_sF12, PPp_sF13, PPp_sF14, PPp_sF16, PPp_sF17, PPp_sF18, PPp_sF19, PPp_sF21, PPp_sF22, PPp_sF23, PPp_sF24, PPp_sF25, PPp_sF28, PPp_sF29, PPp_sF30, PPp_sF31, PPp_sF32, PPp_sF33, PPp_sF38, PPp_sF39, PPp_sF41, PPp_sF42, PPp_sF43, PPp_sF44, PPp_sF45, PPp_sF60, PPp_sF65, PPp_sF66, PPp_sF67, PPp_sF68, PPp_sF70, PPp_sF71, PPp_sF72, PPp_sF73, PPp_sF74, PPp_sF80, PPp_sF81, PPp_sF82, PPp_sF83, PPp_sF88, PPp_sF92, PPp_sF94, PPp_sF96, PPp_sF97, PPp_sF98, PPp_sF99, PPp_sF100, PPp_sF101, PPp_sF103, PPp_sF104, PPp_sF112, PPp_sF113, PPp_sF118, PPp_sF119, PPp_sF122, PPp_sF123, PPp_sF135, PPp_sF137, PPp_sA1, PPp_sA2, PPp_sA5, PPp_sA20, PPp_sA26, PPp_sA27, PPp_sA34, PPp_sA35, PPp_sA36, PPp_sA37, PPp_sA40, PPp_sA46, PPp_sA47, PPp_sA48, PPp_sA49, PPp_sA50, PPp_sA51, PPp_sA52, PPp_sA53, PPp_sA54, PPp_sA55, PPp_sA58, PPp_sA59, PPp_sA61, PPp_sA62, PPp_sA63, PPp_sA64, PPp_sA69, PPp_sA75, PPp_sA76, PPp_sA77, PPp_sA78, PPp_sA79, PPp_sA84, PPp_sA85, PPp_sA86, PPp_sA87, PPp_sA89, PPp_sA90, PPp_sA91, PPp_sA93, PPp_sA102, PPp_sA105, PPp_sA106, PPp_sA107, PPp_sA108, PPp_sA109, PPp_sA110, PPp_sA111, PPp_sA114, PPp_sA115, PPp_sA116, PPp_sA117, PPp_sA120, PPp_sA121, PPp_sA124, PPp_sA125, PPp_sA126, PPp_sA127, PPp_sA128, PPp_sA129, PPp_sA136, PPp_sA138, PPp_gA0, PPp_gA1, PPp_gA2, PPp_gA3, PPp_gA4, PPp_gA5, PPp_gA6, PPp_gA8, PPp_gA10, PPp_gA11, PPp_gA15, PPp_gA16, PPp_gA17, PPp_gA18, PPp_gA19, PPp_gA20, PPp_gA21, PPp_gA22, PPp_gA23, PPp_gA24, PPp_gA25, PPp_gA26, PPp_gA27, PPp_gA29, PPp_gA30, PPp_gA31, PPp_gA33, PPp_gA34, PPp_gA35, PPp_gA36, PPp_gA37, PPp_sF7, PPp_sF9, WFp_sL, WFp_sF0, WFp_sF3, WFp_sF10, WFp_sF11, WFp_sF12, WFp_sF13, WFp_sF14, WFp_sF16, WFp_sF17, WFp_sF18, WFp_sF19, WFp_sF21, WFp_sF22, WFp_sF23, WFp_sF24, WFp_sF25, WFp_sF28, WFp_sF29, WFp_sF30, WFp_sF31, WFp_sF32, WFp_sF33, WFp_sF38, WFp_sF39, WFp_sF41, WFp_sF42, WFp_sF43, WFp_sF44, WFp_sF45, WFp_sF60, WFp_sF65, WFp_sF66, WFp_sF67, WFp_sF68, WFp_sF70, WFp_sF71, WFp_sF72, WFp_sF73, WFp_sF74, WFp_sF80, WFp_sF81, WFp_sF82, WFp_sF83, WFp_sF88, WFp_sF92, WFp_sF94, WFp_sF96, WFp_sF97, WFp_sF98, WFp_sF99, WFp_sF100, WFp_sF101, WFp_sF103, WFp_sF104, WFp_sF112, WFp_sF113, WFp_sF118, WFp_sF119, WFp_sF122, WFp_sF123, WFp_sF135, WFp_sF137, WFp_sA1, WFp_sA2, WFp_sA5, WFp_sA20, WFp_sA26, WFp_sA27, WFp_sA34, WFp_sA35, WFp_sA36, WFp_sA37, WFp_sA40, WFp_sA46, WFp_sA47, WFp_sA48, WFp_sA51, WFp_sA52, WFp_sA53, WFp_sA54, WFp_sA55, WFp_sA56, WFp_sA57, WFp_sA58, WFp_sA59, WFp_sA61, WFp_sA62, WFp_sA63, WFp_sA64, WFp_sA69, WFp_sA75, WFp_sA76, WFp_sA77, WFp_sA78, WFp_sA79, WFp_sA84, WFp_sA85, WFp_sA86, WFp_sA87, WFp_sA89, WFp_sA90, WFp_sA91, WFp_sA93, WFp_sA102, WFp_sA105, WFp_sA106, WFp_sA107, WFp_sA108, WFp_sA109, WFp_sA110, WFp_sA111, WFp_sA114, WFp_sA115, WFp_sA116, WFp_sA117, WFp_sA120, WFp_sA121, WFp_sA124, WFp_sA125, WFp_sA126, WFp_sA127, WFp_sA128, WFp_sA129, WFp_sA136, WFp_sA138, WFp_gA0, WFp_gA1, WFp_gA2, WFp_gA3, WFp_gA4, WFp_gA5, WFp_gA6, WFp_gA8, WFp_gA10, WFp_gA11, WFp_gA15, WFp_gA16, WFp_gA17, WFp_gA18, WFp_gA19, WFp_gA20, WFp_gA21, WFp_gA22, WFp_gA23, WFp_gA24, WFp_gA25, WFp_gA26, WFp_gA27, WFp_gA29, WFp_gA30, WFp_gA31, WFp_gA33, WFp_gA34, WFp_gA35, WFp_gA36, WFp_gA37, WFp_sF7, WFp_sF9] at *
  (repeat' (first | with_reducible intro _ | with_reducible apply And.intro))
  all_goals (first | assumption | omega | grind (splits := 20) [rNM_sF0])
theorem wX14_clear (l : Launch) (G : zG) (κ : Nat → Nat) (σ : rS) (hwf : rWF σ) (Q : Int → rS → Prop) (h : VC_X14_clear σ Q) : rMi l G κ yX14_clear cX14_clear 1 .boolean 2 20 [.ref (κ 0)] σ (fun x s => rKeep 0x1000000000000001 0 0 0 0 σ s ∧ Q x s) := by
  refine zMi.intro (by decide +kernel) (Nat.le_of_ble_eq_true rfl) (fun X hC hR => ?_)
  refine z_aload_n hC (pc := 0) 0 dX14_clear_0 rfl rfl ?_
  refine z_iconst hC (pc := 1) (v := Int32.ofInt 0) dX14_clear_1 (by decide) ?_
  refine y_putI hC (pc := 2) zf14 rOb_0 0 (x := 0) dX14_clear_2 zw2468 (Or.inl rfl) rfl rfl (kk := ?_)
  have W10 := hwf.sF (q := 0) (f := 0) (x := 0) (r_lit rfl)
  refine z_aload_n hC (pc := 5) 0 dX14_clear_5 rfl rfl ?_
  obtain ⟨p11, h⟩ := h
  refine y_callVi hC (pc := 6) (As := []) (kX14_isMade l G κ (sF σ 0 0 0)  W10  p11) dmX14_isMade zf14 rOb_0 dX14_clear_6 zw2893 rfl rfl (Nat.le_of_ble_eq_true rfl) (Nat.le_of_ble_eq_true rfl) (Nat.le_of_ble_eq_true rfl) (Nat.le_of_ble_eq_true rfl) (Nat.le_of_ble_eq_true rfl) (kk := fun x13 s12 hx13 Ws12 qs12 => ?_)
  obtain ⟨es12, qs12⟩ := qs12
  have es12 := es12.symm
  subst es12
  have h := h x13 hx13 qs12
  obtain ⟨hT, hF⟩ := h
  refine y_if_eq hC (pc := 9) 14 hx13 dX14_clear_9 (by decide) (fun c => ?_) (fun c => ?_)
  · have h := hT c
    refine z_aload_n hC (pc := 14) 0 dX14_clear_14 rfl rfl ?_
    refine z_iconst hC (pc := 15) (v := Int32.ofInt 0) dX14_clear_15 (by decide) ?_
    refine y_putI hC (pc := 16) zf14 rOb_0 60 (x := 0) dX14_clear_16 zw2527 (Or.inl rfl) rfl rfl (kk := ?_)
    have W14 := W10.sF (q := 0) (f := 60) (x := 0) (r_lit rfl)
    refine z_iconst hC (pc := 19) (v := Int32.ofInt 1) dX14_clear_19 (by decide) ?_
    exact y_reti hR dX14_clear_20 rfl (r_lit rfl) W14 (Nat.le_of_ble_eq_true rfl) (Nat.le_of_ble_eq_true rfl) ⟨(rKeep.tr (rKeep.tr rKeep.rf (rKeep.sF0 (f := 0)) rfl rfl rfl rfl rfl) (rKeep.sF0 (f := 60)) rfl rfl rfl rfl rfl), h⟩
  · have h := hF c
    refine z_iconst hC (pc := 12) (v := Int32.ofInt 0) dX14_clear_12 (by decide) ?_
    exact y_reti hR dX14_clear_13 rfl (r_lit rfl) W10 (Nat.le_of_ble_eq_true rfl) (Nat.le_of_ble_eq_true rfl) ⟨(rKeep.tr rKeep.rf (rKeep.sF0 (f := 0)) rfl rfl rfl rfl rfl), h⟩
theorem kX14_clear (l : Launch) (G : zG) (κ : Nat → Nat) (σ : rS) (hwf : rWF σ) (hp : pre_X14_clear σ ) : rMi l G κ yX14_clear cX14_clear 1 .boolean 2 20 [.ref (κ 0)] σ (fun x s => rKeep 0x1000000000000001 0 0 0 0 σ s ∧ post_X14_clear σ x s) := wX14_clear l G κ σ hwf (post_X14_clear σ ) (vX14_clear σ hwf hp) 
def pre_X14_width (σ : rS) (x1 : Int) : Prop := 0 ≤ (rF σ 0 43) ∧ (rF σ 0 43) ≤ 500 ∧ 0 ≤ (rF σ 0 45) ∧ (rF σ 0 45) ≤ 16000 ∧ 0 ≤ (rF σ 0 44) ∧ (rF σ 0 44) ≤ 4000 ∧ 0 ≤ (rF σ 0 60) ∧ (rF σ 0 60) ≤ 40 ∧ 0 ≤ (rF σ 0 3) ∧ (rF σ 0 3) ≤ 4000 ∧ VMp σ ∧ KYp σ ∧ PPp σ ∧ WFp σ
def post_X14_width (σ : rS) (x1 : Int) (r : Int) (σ' : rS) : Prop := 0 ≤ (rF σ' 0 43) ∧ (rF σ' 0 43) ≤ 500 ∧ 0 ≤ (rF σ' 0 45) ∧ (rF σ' 0 45) ≤ 16000 ∧ 0 ≤ (rF σ' 0 44) ∧ (rF σ' 0 44) ≤ 4000 ∧ 0 ≤ (rF σ' 0 60) ∧ (rF σ' 0 60) ≤ 40 ∧ 0 ≤ (rF σ' 0 3) ∧ (rF σ' 0 3) ≤ 4000 ∧ VMp σ' ∧ KYp σ' ∧ PPp σ' ∧ WFp σ' ∧ ((rF σ' 0 65) = (rF σ 0 65) ∨ (0 ≤ (rF σ' 0 65) ∧ (rF σ' 0 65) ≤ 1000))
def VC_X14_width (σ : rS) (x1 : Int) (Q : Int → rS → Prop) : Prop := ((x1 < 0 → Q 0 (sF σ 0 0 0)) ∧ (¬ x1 < 0 → ((x1 ≤ 1000 → Q 1 (sF (sF σ 0 0 0) 0 65 x1)) ∧ (¬ x1 ≤ 1000 → Q 0 (sF σ 0 0 0)))))
set_option maxHeartbeats 400000 in
theorem vX14_width (σ : rS) (x1 : Int) (hwf : rWF σ) (hx1 : rng x1) (hp : pre_X14_width σ x1) : VC_X14_width σ x1 (post_X14_width σ x1) := by
  simp only [VC_X14_width, pre_X14_width, post_X14_width, rng, rfk, rNMp, rF_sF, rF_sA, rF_sL, rF_sR, rA_sA, rA_sF, rA_sL, rA_sR, rR_sF, rR_sA, rR_sL, rR_sR, reduceIte, and_true, true_and, and_false, false_and, and_self, VMp_sL, VMp_sF0, VMp_sF3, VMp_sF10, VMp_sF11, VMp_sF12, VMp_sF13, VMp_sF14, VMp_sF16, VMp_sF17, VMp_sF18, VMp_sF19, VMp_sF21, VMp_sF22, VMp_sF23, VMp_sF24, VMp_sF25, VMp_sF28, VMp_sF29, VMp_sF30, VMp_sF31, VMp_sF32, VMp_sF33, VMp_sF38, VMp_sF39, VMp_sF41, VMp_sF42, VMp_sF43, VMp_sF44, VMp_sF45, VMp_sF60, VMp_sF65, VMp_sF66, VMp_sF67, VMp_sF68, VMp_sF70, VMp_sF71, VMp_sF72, VMp_sF73, VMp_sF74, VMp_sF80, VMp_sF81, VMp_sF82, VMp_sF83, VMp_sF88, VMp_sF92, VMp_sF94, VMp_sF96, VMp_sF97, VMp_sF98, VMp_sF99, VMp_sF100, VMp_sF101, VMp_sF103, VMp_sF104, VMp_sF112, VMp_sF113, VMp_sF118, VMp_sF119, VMp_sF122, VMp_sF123, VMp_sF135, VMp_sF137, VMp_sA1, VMp_sA2, VMp_sA5, VMp_sA20, VMp_sA26, VMp_sA27, VMp_sA34, VMp_sA35, VMp_sA36, VMp_sA37, VMp_sA40, VMp_sA47, VMp_sA48, VMp_sA49, VMp_sA50, VMp_sA52, VMp_sA53, VMp_sA54, VMp_sA55, VMp_sA56, VMp_sA57, VMp_sA58, VMp_sA59, VMp_sA61, VMp_sA62, VMp_sA63, VMp_sA64, VMp_sA69, VMp_sA75, VMp_sA76, VMp_sA77, VMp_sA78, VMp_sA79, VMp_sA84, VMp_sA85, VMp_sA86, VMp_sA87, VMp_sA89, VMp_sA90, VMp_sA91, VMp_sA93, VMp_sA102, VMp_sA105, VMp_sA106, VMp_sA107, VMp_sA108, VMp_sA109, VMp_sA110, VMp_sA111, VMp_sA114, VMp_sA115, VMp_sA116, VMp_sA117, VMp_sA120, VMp_sA121, VMp_sA124, VMp_sA125, VMp_sA126, VMp_sA127, VMp_sA128, VMp_sA129, VMp_sA136, VMp_sA138, VMp_gA0, VMp_gA1, VMp_gA2, VMp_gA3, VMp_gA4, VMp_gA5, VMp_gA6, VMp_gA8, VMp_gA10, VMp_gA11, VMp_gA15, VMp_gA16, VMp_gA17, VMp_gA18, VMp_gA19, VMp_gA20, VMp_gA21, VMp_gA22, VMp_gA23, VMp_gA24, VMp_gA25, VMp_gA26, VMp_gA27, VMp_gA29, VMp_gA30, VMp_gA31, VMp_gA33, VMp_gA34, VMp_gA35, VMp_gA36, VMp_gA37, VMp_sF7, VMp_sF9, KYp_sL, KYp_sF0, KYp_sF3, KYp_sF10, KYp_sF11, KYp_sF12, KYp_sF13, KYp_sF14, KYp_sF16, KYp_sF17, KYp_sF18, KYp_sF19, KYp_sF21, KYp_sF22, KYp_sF23, KYp_sF24, KYp_sF25, KYp_sF28, KYp_sF29, KYp_sF30, KYp_sF31, KYp_sF32, KYp_sF33, KYp_sF38, KYp_sF39, KYp_sF41, KYp_sF42, KYp_sF43, KYp_sF44, KYp_sF45, KYp_sF60, KYp_sF65, KYp_sF66, KYp_sF67, KYp_sF68, KYp_sF70, KYp_sF71, KYp_sF72, KYp_sF73, KYp_sF74, KYp_sF80, KYp_sF81, KYp_sF82, KYp_sF83, KYp_sF88, KYp_sF92, KYp_sF94, KYp_sF96, KYp_sF97, KYp_sF98, KYp_sF99, KYp_sF100, KYp_sF101, KYp_sF103, KYp_sF104, KYp_sF112, KYp_sF113, KYp_sF118, KYp_sF119, KYp_sF122, KYp_sF123, KYp_sF135, KYp_sF137, KYp_sA1, KYp_sA2, KYp_sA5, KYp_sA20, KYp_sA26, KYp_sA27, KYp_sA34, KYp_sA35, KYp_sA36, KYp_sA37, KYp_sA40, KYp_sA46, KYp_sA47, KYp_sA48, KYp_sA49, KYp_sA50, KYp_sA51, KYp_sA52, KYp_sA55, KYp_sA56, KYp_sA57, KYp_sA58, KYp_sA59, KYp_sA61, KYp_sA62, KYp_sA63, KYp_sA64, KYp_sA69, KYp_sA75, KYp_sA76, KYp_sA77, KYp_sA78, KYp_sA79, KYp_sA84, KYp_sA85, KYp_sA86, KYp_sA87, KYp_sA89, KYp_sA90, KYp_sA91, KYp_sA93, KYp_sA102, KYp_sA105, KYp_sA106, KYp_sA107, KYp_sA108, KYp_sA109, KYp_sA110, KYp_sA111, KYp_sA114, KYp_sA115, KYp_sA116, KYp_sA117, KYp_sA120, KYp_sA121, KYp_sA124, KYp_sA125, KYp_sA126, KYp_sA127, KYp_sA128, KYp_sA129, KYp_sA136, KYp_sA138, KYp_gA0, KYp_gA1, KYp_gA2, KYp_gA3, KYp_gA4, KYp_gA5, KYp_gA6, KYp_gA8, KYp_gA10, KYp_gA11, KYp_gA15, KYp_gA16, KYp_gA17, KYp_gA18, KYp_gA19, KYp_gA20, KYp_gA21, KYp_gA22, KYp_gA23, KYp_gA24, KYp_gA25, KYp_gA26, KYp_gA27, KYp_gA29, KYp_gA30, KYp_gA31, KYp_gA33, KYp_gA34, KYp_gA35, KYp_gA36, KYp_gA37, KYp_sF7, KYp_sF9, PPp_sL, PPp_sF0, PPp_sF3, PPp_sF10, PPp_sF11, PPp_sF12, PPp_sF13, PPp_sF14, PPp_sF16, PPp_sF17, PPp_sF18, PPp_sF19, PPp_sF21, PPp_sF22, PPp_sF23, PPp_sF24, PPp_sF25, PPp_sF28, PPp_sF29, PPp_sF30, PPp_sF31, PPp_sF32, PPp_sF33, PPp_sF38, PPp_sF39, PPp_sF41, PPp_sF42, PPp_sF43, PPp_sF44, PPp_sF45, PPp_sF60, PPp_sF65, PPp_sF66, PPp_sF67, PPp_sF68, PPp_sF70, PPp_sF71, PPp_sF72, PPp_sF73, PPp_sF74, PPp_sF80, PPp_sF81, PPp_sF82, PPp_sF83, PPp_sF88, PPp_sF92, PPp_sF94, PPp_sF96, PPp_sF97, PPp_sF98, PPp_sF99, PPp_sF100, PPp_sF101, PPp_sF103, PPp_sF104, PPp_sF112, PPp_sF113, PPp_sF118, PPp_sF119, PPp_sF122, PPp_sF123, PPp_sF135, PPp_sF137, PPp_sA1, PPp_sA2, PPp_sA5, PPp_sA20, PPp_sA26, PPp_sA27, PPp_sA34, PPp_sA35, PPp_sA36, PPp_sA37, PPp_sA40, PPp_sA46, PPp_sA47, PPp_sA48, PPp_sA49, PPp_sA50, PPp_sA51, PPp_sA52, PPp_sA53, PPp_sA54, PPp_sA55, PPp_sA58, PPp_sA59, PPp_sA61, PPp_sA62, PPp_sA63, PPp_sA64, PPp_sA69, PPp_sA75, PPp_sA76, PPp_sA77, PPp_sA78, PPp_sA79, PPp_sA84, PPp_sA85, PPp_sA86, PPp_sA87, PPp_sA89, PPp_sA90, PPp_sA91, PPp_sA93, PPp_sA102, PPp_sA105, PPp_sA106, PPp_sA107, PPp_sA108, PPp_sA109, PPp_sA110, PPp_sA111, PPp_sA114, PPp_sA115, PPp_sA116, PPp_sA117, PPp_sA120, PPp_sA121, PPp_sA124, PPp_sA125, PPp_sA126, PPp_sA127, PPp_sA128, PPp_sA129, PPp_sA136, PPp_sA138, PPp_gA0, PPp_gA1, PPp_gA2, PPp_gA3, PPp_gA4, PPp_gA5, PPp_gA6, PPp_gA8, PPp_gA10, PPp_gA11, PPp_gA15, PPp_gA16, PPp_gA17, PPp_gA18, PPp_gA19, PPp_gA20, PPp_gA21, PPp_gA22, PPp_gA23, PPp_gA24, PPp_gA25, PPp_gA26, PPp_gA27, PPp_gA29, PPp_gA30, PPp_gA31, PPp_gA33, PPp_gA34, PPp_gA35, PPp_gA36, PPp_gA37, PPp_sF7, PPp_sF9, WFp_sL, WFp_sF0, WFp_sF3, WFp_sF10, WFp_sF11, WFp_sF12, WFp_sF13, WFp_sF14, WFp_sF16, WFp_sF17, WFp_sF18, WFp_sF19, WFp_sF21, WFp_sF22, WFp_sF23, WFp_sF24, WFp_sF25, WFp_sF28, WFp_sF29, WFp_sF30, WFp_sF31, WFp_sF32, WFp_sF33, WFp_sF38, WFp_sF39, WFp_sF41, WFp_sF42, WFp_sF43, WFp_sF44, WFp_sF45, WFp_sF60, WFp_sF65, WFp_sF66, WFp_sF67, WFp_sF68, WFp_sF70, WFp_sF71, WFp_sF72, WFp_sF73, WFp_sF74, WFp_sF80, WFp_sF81, WFp_sF82, WFp_sF83, WFp_sF88, WFp_sF92, WFp_sF94, WFp_sF96, WFp_sF97, WFp_sF98, WFp_sF99, WFp_sF100, WFp_sF101, WFp_sF103, WFp_sF104, WFp_sF112, WFp_sF113, WFp_sF118, WFp_sF119, WFp_sF122, WFp_sF123, WFp_sF135, WFp_sF137, WFp_sA1, WFp_sA2, WFp_sA5, WFp_sA20, WFp_sA26, WFp_sA27, WFp_sA34, WFp_sA35, WFp_sA36, WFp_sA37, WFp_sA40, WFp_sA46, WFp_sA47, WFp_sA48, WFp_sA51, WFp_sA52, WFp_sA53, WFp_sA54, WFp_sA55, WFp_sA56, WFp_sA57, WFp_sA58, WFp_sA59, WFp_sA61, WFp_sA62, WFp_sA63, WFp_sA64, WFp_sA69, WFp_sA75, WFp_sA76, WFp_sA77, WFp_sA78, WFp_sA79, WFp_sA84, WFp_sA85, WFp_sA86, WFp_sA87, WFp_sA89, WFp_sA90, WFp_sA91, WFp_sA93, WFp_sA102, WFp_sA105, WFp_sA106, WFp_sA107, WFp_sA108, WFp_sA109, WFp_sA110, WFp_sA111, WFp_sA114, WFp_sA115, WFp_sA116, WFp_sA117, WFp_sA120, WFp_sA121, WFp_sA124, WFp_sA125, WFp_sA126, WFp_sA127, WFp_sA128, WFp_sA129, WFp_sA136, WFp_sA138, WFp_gA0, WFp_gA1, WFp_gA2, WFp_gA3, WFp_gA4, WFp_gA5, WFp_gA6, WFp_gA8, WFp_gA10, WFp_gA11, WFp_gA15, WFp_gA16, WFp_gA17, WFp_gA18, WFp_gA19, WFp_gA20, WFp_gA21, WFp_gA22, WFp_gA23, WFp_gA24, WFp_gA25, WFp_gA26, WFp_gA27, WFp_gA29, WFp_gA30, WFp_gA31, WFp_gA33, WFp_gA34, WFp_gA35, WFp_gA36, WFp_gA37, WFp_sF7, WFp_sF9] at *
  (repeat' (first | with_reducible intro _ | with_reducible apply And.intro))
  all_goals (first | assumption | omega | grind (splits := 20) [rNM_sF0])
theorem wX14_width (l : Launch) (G : zG) (κ : Nat → Nat) (σ : rS) (x1 : Int) (hwf : rWF σ) (hx1 : rng x1) (Q : Int → rS → Prop) (h : VC_X14_width σ x1 Q) : rMi l G κ yX14_width cX14_width 2 .boolean 1 0 [.ref (κ 0), iv x1] σ (fun x s => rKeep 0x20000000000000001 0 0 0 0 σ s ∧ Q x s) := by
  refine zMi.intro (by decide +kernel) (Nat.le_of_ble_eq_true rfl) (fun X hC hR => ?_)
  refine z_aload_n hC (pc := 0) 0 dX14_width_0 rfl rfl ?_
  refine z_iconst hC (pc := 1) (v := Int32.ofInt 0) dX14_width_1 (by decide) ?_
  refine y_putI hC (pc := 2) zf14 rOb_0 0 (x := 0) dX14_width_2 zw2468 (Or.inl rfl) rfl rfl (kk := ?_)
  have W10 := hwf.sF (q := 0) (f := 0) (x := 0) (r_lit rfl)
  refine z_iload_n hC (pc := 5) 1 dX14_width_5 rfl rfl ?_
  obtain ⟨hT, hF⟩ := h
  refine y_if_lt hC (pc := 6) 16 hx1 dX14_width_6 (by decide) (fun c => ?_) (fun c => ?_)
  · have h := hT c
    refine z_iconst hC (pc := 16) (v := Int32.ofInt 0) dX14_width_16 (by decide) ?_
    exact y_reti hR dX14_width_17 rfl (r_lit rfl) W10 (Nat.le_of_ble_eq_true rfl) (Nat.le_of_ble_eq_true rfl) ⟨(rKeep.tr rKeep.rf (rKeep.sF0 (f := 0)) rfl rfl rfl rfl rfl), h⟩
  · have h := hF c
    refine z_iload_n hC (pc := 9) 1 dX14_width_9 rfl rfl ?_
    refine z_sipush hC (pc := 10) (v := Int32.ofInt 1000) dX14_width_10 (by decide) ?_
    obtain ⟨hT, hF⟩ := h
    refine y_icmp_le hC (pc := 13) 18 hx1 (r_lit rfl) dX14_width_13 (by decide) (fun c => ?_) (fun c => ?_)
    · have h := hT c
      refine z_aload_n hC (pc := 18) 0 dX14_width_18 rfl rfl ?_
      refine z_iload_n hC (pc := 19) 1 dX14_width_19 rfl rfl ?_
      refine y_putI hC (pc := 20) zf14 rOb_0 65 (x := x1) dX14_width_20 zw2532 (Or.inl rfl) rfl rfl (kk := ?_)
      have W11 := W10.sF (q := 0) (f := 65) (x := x1) hx1
      refine z_iconst hC (pc := 23) (v := Int32.ofInt 1) dX14_width_23 (by decide) ?_
      exact y_reti hR dX14_width_24 rfl (r_lit rfl) W11 (Nat.le_of_ble_eq_true rfl) (Nat.le_of_ble_eq_true rfl) ⟨(rKeep.tr (rKeep.tr rKeep.rf (rKeep.sF0 (f := 0)) rfl rfl rfl rfl rfl) (rKeep.sF0 (f := 65)) rfl rfl rfl rfl rfl), h⟩
    · have h := hF c
      refine z_iconst hC (pc := 16) (v := Int32.ofInt 0) dX14_width_16 (by decide) ?_
      exact y_reti hR dX14_width_17 rfl (r_lit rfl) W10 (Nat.le_of_ble_eq_true rfl) (Nat.le_of_ble_eq_true rfl) ⟨(rKeep.tr rKeep.rf (rKeep.sF0 (f := 0)) rfl rfl rfl rfl rfl), h⟩
theorem kX14_width (l : Launch) (G : zG) (κ : Nat → Nat) (σ : rS) (x1 : Int) (hwf : rWF σ) (hx1 : rng x1) (hp : pre_X14_width σ x1) : rMi l G κ yX14_width cX14_width 2 .boolean 1 0 [.ref (κ 0), iv x1] σ (fun x s => rKeep 0x20000000000000001 0 0 0 0 σ s ∧ post_X14_width σ x1 x s) := wX14_width l G κ σ x1 hwf hx1 (post_X14_width σ x1) (vX14_width σ x1 hwf hx1 hp) 
def pre_X14_feed (σ : rS) (x1 : Int) (x2 : Int) (x3 : Int) (x4 : Int) (x5 : Int) : Prop := 0 ≤ (rF σ 0 43) ∧ (rF σ 0 43) ≤ 500 ∧ 0 ≤ (rF σ 0 45) ∧ (rF σ 0 45) ≤ 16000 ∧ 0 ≤ (rF σ 0 44) ∧ (rF σ 0 44) ≤ 4000 ∧ 0 ≤ (rF σ 0 60) ∧ (rF σ 0 60) ≤ 40 ∧ 0 ≤ (rF σ 0 3) ∧ (rF σ 0 3) ≤ 4000 ∧ VMp σ ∧ KYp σ ∧ PPp σ ∧ WFp σ
def post_X14_feed (σ : rS) (x1 : Int) (x2 : Int) (x3 : Int) (x4 : Int) (x5 : Int) (σ' : rS) : Prop := 0 ≤ (rF σ' 0 43) ∧ (rF σ' 0 43) ≤ 500 ∧ 0 ≤ (rF σ' 0 45) ∧ (rF σ' 0 45) ≤ 16000 ∧ 0 ≤ (rF σ' 0 44) ∧ (rF σ' 0 44) ≤ 4000 ∧ 0 ≤ (rF σ' 0 60) ∧ (rF σ' 0 60) ≤ 40 ∧ 0 ≤ (rF σ' 0 3) ∧ (rF σ' 0 3) ≤ 4000 ∧ VMp σ' ∧ KYp σ' ∧ PPp σ' ∧ WFp σ'
def inv_X14_feed_8 (σ : rS) (x1 : Int) (x2 : Int) (x3 : Int) (x4 : Int) (x5 : Int)  (s : rS) (k : Int) : Prop := 0 ≤ k ∧ k ≤ 4
def mu_X14_feed_8 (σ : rS) (x1 : Int) (x2 : Int) (x3 : Int) (x4 : Int) (x5 : Int) (s : rS) (k : Int) : Nat := (1 + (4 - k).toNat)
def VC_X14_feed (σ : rS) (x1 : Int) (x2 : Int) (x3 : Int) (x4 : Int) (x5 : Int) (Q : rS → Prop) : Prop := (inv_X14_feed_8 σ x1 x2 x3 x4 x5 (sF σ 0 0 0) 0)
def VC_X14_feed_8 (σ : rS) (x1 : Int) (x2 : Int) (x3 : Int) (x4 : Int) (x5 : Int) (Q : rS → Prop) : Prop := ∀ (s11 : rS) (y12 : Int), rWF s11 → rng y12 → (VMp σ → VMp s11) → (KYp σ → KYp s11) → (PPp σ → PPp s11) → (WFp σ → WFp s11) → rF s11 0 3 = rF σ 0 3 → rF s11 0 43 = rF σ 0 43 → rF s11 0 44 = rF σ 0 44 → rF s11 0 45 = rF σ 0 45 → rF s11 0 60 = rF σ 0 60 → inv_X14_feed_8 σ x1 x2 x3 x4 x5 s11 y12 → (((4 ≤ y12 → Q s11) ∧ (¬ 4 ≤ y12 → (0 ≤ y12 ∧ y12 < 20) ∧ (0 ≤ (4 + y12) ∧ (4 + y12) < 20) ∧ (0 ≤ (8 + y12) ∧ (8 + y12) < 20) ∧ (0 ≤ (12 + y12) ∧ (12 + y12) < 20) ∧ (0 ≤ (16 + y12) ∧ (16 + y12) < 20) ∧ rng (y12 + 1) ∧ (inv_X14_feed_8 σ x1 x2 x3 x4 x5 (sA (sA (sA (sA (sA s11 1001 y12 (inar .byte (f_i2b (f_ishr x1 (24 - (8 * y12)))))) 1001 (4 + y12) (inar .byte (f_i2b (f_ishr x2 (24 - (8 * y12)))))) 1001 (8 + y12) (inar .byte (f_i2b (f_ishr x3 (24 - (8 * y12)))))) 1001 (12 + y12) (inar .byte (f_i2b (f_ishr x4 (24 - (8 * y12)))))) 1001 (16 + y12) (inar .byte (f_i2b (f_ishr x5 (24 - (8 * y12)))))) (y12 + 1) ∧ (mu_X14_feed_8 σ x1 x2 x3 x4 x5 (sA (sA (sA (sA (sA s11 1001 y12 (inar .byte (f_i2b (f_ishr x1 (24 - (8 * y12)))))) 1001 (4 + y12) (inar .byte (f_i2b (f_ishr x2 (24 - (8 * y12)))))) 1001 (8 + y12) (inar .byte (f_i2b (f_ishr x3 (24 - (8 * y12)))))) 1001 (12 + y12) (inar .byte (f_i2b (f_ishr x4 (24 - (8 * y12)))))) 1001 (16 + y12) (inar .byte (f_i2b (f_ishr x5 (24 - (8 * y12)))))) (y12 + 1)) < (mu_X14_feed_8 σ x1 x2 x3 x4 x5 s11 y12)))))
def VC_X14_feed_8m (σ : rS) (x1 : Int) (x2 : Int) (x3 : Int) (x4 : Int) (x5 : Int) : Prop := ∀ (s11 : rS) (y12 : Int), rWF s11 → rng y12 → (VMp σ → VMp s11) → (KYp σ → KYp s11) → (PPp σ → PPp s11) → (WFp σ → WFp s11) → rF s11 0 3 = rF σ 0 3 → rF s11 0 43 = rF σ 0 43 → rF s11 0 44 = rF σ 0 44 → rF s11 0 45 = rF σ 0 45 → rF s11 0 60 = rF σ 0 60 → inv_X14_feed_8 σ x1 x2 x3 x4 x5 s11 y12 → 0 < (mu_X14_feed_8 σ x1 x2 x3 x4 x5 s11 y12)
set_option maxHeartbeats 400000 in
theorem vX14_feed (σ : rS) (x1 : Int) (x2 : Int) (x3 : Int) (x4 : Int) (x5 : Int) (hwf : rWF σ) (hx1 : rng x1) (hx2 : rng x2) (hx3 : rng x3) (hx4 : rng x4) (hx5 : rng x5) (hp : pre_X14_feed σ x1 x2 x3 x4 x5) : VC_X14_feed σ x1 x2 x3 x4 x5 (post_X14_feed σ x1 x2 x3 x4 x5) := by
  simp only [VC_X14_feed, pre_X14_feed, post_X14_feed, inv_X14_feed_8, mu_X14_feed_8, rng, rfk, rNMp, rF_sF, rF_sA, rF_sL, rF_sR, rA_sA, rA_sF, rA_sL, rA_sR, rR_sF, rR_sA, rR_sL, rR_sR, reduceIte, and_true, true_and, and_false, false_and, and_self, VMp_sL, VMp_sF0, VMp_sF3, VMp_sF10, VMp_sF11, VMp_sF12, VMp_sF13, VMp_sF14, VMp_sF16, VMp_sF17, VMp_sF18, VMp_sF19, VMp_sF21, VMp_sF22, VMp_sF23, VMp_sF24, VMp_sF25, VMp_sF28, VMp_sF29, VMp_sF30, VMp_sF31, VMp_sF32, VMp_sF33, VMp_sF38, VMp_sF39, VMp_sF41, VMp_sF42, VMp_sF43, VMp_sF44, VMp_sF45, VMp_sF60, VMp_sF65, VMp_sF66, VMp_sF67, VMp_sF68, VMp_sF70, VMp_sF71, VMp_sF72, VMp_sF73, VMp_sF74, VMp_sF80, VMp_sF81, VMp_sF82, VMp_sF83, VMp_sF88, VMp_sF92, VMp_sF94, VMp_sF96, VMp_sF97, VMp_sF98, VMp_sF99, VMp_sF100, VMp_sF101, VMp_sF103, VMp_sF104, VMp_sF112, VMp_sF113, VMp_sF118, VMp_sF119, VMp_sF122, VMp_sF123, VMp_sF135, VMp_sF137, VMp_sA1, VMp_sA2, VMp_sA5, VMp_sA20, VMp_sA26, VMp_sA27, VMp_sA34, VMp_sA35, VMp_sA36, VMp_sA37, VMp_sA40, VMp_sA47, VMp_sA48, VMp_sA49, VMp_sA50, VMp_sA52, VMp_sA53, VMp_sA54, VMp_sA55, VMp_sA56, VMp_sA57, VMp_sA58, VMp_sA59, VMp_sA61, VMp_sA62, VMp_sA63, VMp_sA64, VMp_sA69, VMp_sA75, VMp_sA76, VMp_sA77, VMp_sA78, VMp_sA79, VMp_sA84, VMp_sA85, VMp_sA86, VMp_sA87, VMp_sA89, VMp_sA90, VMp_sA91, VMp_sA93, VMp_sA102, VMp_sA105, VMp_sA106, VMp_sA107, VMp_sA108, VMp_sA109, VMp_sA110, VMp_sA111, VMp_sA114, VMp_sA115, VMp_sA116, VMp_sA117, VMp_sA120, VMp_sA121, VMp_sA124, VMp_sA125, VMp_sA126, VMp_sA127, VMp_sA128, VMp_sA129, VMp_sA136, VMp_sA138, VMp_gA0, VMp_gA1, VMp_gA2, VMp_gA3, VMp_gA4, VMp_gA5, VMp_gA6, VMp_gA8, VMp_gA10, VMp_gA11, VMp_gA15, VMp_gA16, VMp_gA17, VMp_gA18, VMp_gA19, VMp_gA20, VMp_gA21, VMp_gA22, VMp_gA23, VMp_gA24, VMp_gA25, VMp_gA26, VMp_gA27, VMp_gA29, VMp_gA30, VMp_gA31, VMp_gA33, VMp_gA34, VMp_gA35, VMp_gA36, VMp_gA37, VMp_sF7, VMp_sF9, KYp_sL, KYp_sF0, KYp_sF3, KYp_sF10, KYp_sF11, KYp_sF12, KYp_sF13, KYp_sF14, KYp_sF16, KYp_sF17, KYp_sF18, KYp_sF19, KYp_sF21, KYp_sF22, KYp_sF23, KYp_sF24, KYp_sF25, KYp_sF28, KYp_sF29, KYp_sF30, KYp_sF31, KYp_sF32, KYp_sF33, KYp_sF38, KYp_sF39, KYp_sF41, KYp_sF42, KYp_sF43, KYp_sF44, KYp_sF45, KYp_sF60, KYp_sF65, KYp_sF66, KYp_sF67, KYp_sF68, KYp_sF70, KYp_sF71, KYp_sF72, KYp_sF73, KYp_sF74, KYp_sF80, KYp_sF81, KYp_sF82, KYp_sF83, KYp_sF88, KYp_sF92, KYp_sF94, KYp_sF96, KYp_sF97, KYp_sF98, KYp_sF99, KYp_sF100, KYp_sF101, KYp_sF103, KYp_sF104, KYp_sF112, KYp_sF113, KYp_sF118, KYp_sF119, KYp_sF122, KYp_sF123, KYp_sF135, KYp_sF137, KYp_sA1, KYp_sA2, KYp_sA5, KYp_sA20, KYp_sA26, KYp_sA27, KYp_sA34, KYp_sA35, KYp_sA36, KYp_sA37, KYp_sA40, KYp_sA46, KYp_sA47, KYp_sA48, KYp_sA49, KYp_sA50, KYp_sA51, KYp_sA52, KYp_sA55, KYp_sA56, KYp_sA57, KYp_sA58, KYp_sA59, KYp_sA61, KYp_sA62, KYp_sA63, KYp_sA64, KYp_sA69, KYp_sA75, KYp_sA76, KYp_sA77, KYp_sA78, KYp_sA79, KYp_sA84, KYp_sA85, KYp_sA86, KYp_sA87, KYp_sA89, KYp_sA90, KYp_sA91, KYp_sA93, KYp_sA102, KYp_sA105, KYp_sA106, KYp_sA107, KYp_sA108, KYp_sA109, KYp_sA110, KYp_sA111, KYp_sA114, KYp_sA115, KYp_sA116, KYp_sA117, KYp_sA120, KYp_sA121, KYp_sA124, KYp_sA125, KYp_sA126, KYp_sA127, KYp_sA128, KYp_sA129, KYp_sA136, KYp_sA138, KYp_gA0, KYp_gA1, KYp_gA2, KYp_gA3, KYp_gA4, KYp_gA5, KYp_gA6, KYp_gA8, KYp_gA10, KYp_gA11, KYp_gA15, KYp_gA16, KYp_gA17, KYp_gA18, KYp_gA19, KYp_gA20, KYp_gA21, KYp_gA22, KYp_gA23, KYp_gA24, KYp_gA25, KYp_gA26, KYp_gA27, KYp_gA29, KYp_gA30, KYp_gA31, KYp_gA33, KYp_gA34, KYp_gA35, KYp_gA36, KYp_gA37, KYp_sF7, KYp_sF9, PPp_sL, PPp_sF0, PPp_sF3, PPp_sF10, PPp_sF11, PPp_sF12, PPp_sF13, PPp_sF14, PPp_sF16, PPp_sF17, PPp_sF18, PPp_sF19, PPp_sF21, PPp_sF22, PPp_sF23, PPp_sF24, PPp_sF25, PPp_sF28, PPp_sF29, PPp_sF30, PPp_sF31, PPp_sF32, PPp_sF33, PPp_sF38, PPp_sF39, PPp_sF41, PPp_sF42, PPp_sF43, PPp_sF44, PPp_sF45, PPp_sF60, PPp_sF65, PPp_sF66, PPp_sF67, PPp_sF68, PPp_sF70, PPp_sF71, PPp_sF72, PPp_sF73, PPp_sF74, PPp_sF80, PPp_sF81, PPp_sF82, PPp_sF83, PPp_sF88, PPp_sF92, PPp_sF94, PPp_sF96, PPp_sF97, PPp_sF98, PPp_sF99, PPp_sF100, PPp_sF101, PPp_sF103, PPp_sF104, PPp_sF112, PPp_sF113, PPp_sF118, PPp_sF119, PPp_sF122, PPp_sF123, PPp_sF135, PPp_sF137, PPp_sA1, PPp_sA2, PPp_sA5, PPp_sA20, PPp_sA26, PPp_sA27, PPp_sA34, PPp_sA35, PPp_sA36, PPp_sA37, PPp_sA40, PPp_sA46, PPp_sA47, PPp_sA48, PPp_sA49, PPp_sA50, PPp_sA51, PPp_sA52, PPp_sA53, PPp_sA54, PPp_sA55, PPp_sA58, PPp_sA59, PPp_sA61, PPp_sA62, PPp_sA63, PPp_sA64, PPp_sA69, PPp_sA75, PPp_sA76, PPp_sA77, PPp_sA78, PPp_sA79, PPp_sA84, PPp_sA85, PPp_sA86, PPp_sA87, PPp_sA89, PPp_sA90, PPp_sA91, PPp_sA93, PPp_sA102, PPp_sA105, PPp_sA106, PPp_sA107, PPp_sA108, PPp_sA109, PPp_sA110, PPp_sA111, PPp_sA114, PPp_sA115, PPp_sA116, PPp_sA117, PPp_sA120, PPp_sA121, PPp_sA124, PPp_sA125, PPp_sA126, PPp_sA127, PPp_sA128, PPp_sA129, PPp_sA136, PPp_sA138, PPp_gA0, PPp_gA1, PPp_gA2, PPp_gA3, PPp_gA4, PPp_gA5, PPp_gA6, PPp_gA8, PPp_gA10, PPp_gA11, PPp_gA15, PPp_gA16, PPp_gA17, PPp_gA18, PPp_gA19, PPp_gA20, PPp_gA21, PPp_gA22, PPp_gA23, PPp_gA24, PPp_gA25, PPp_gA26, PPp_gA27, PPp_gA29, PPp_gA30, PPp_gA31, PPp_gA33, PPp_gA34, PPp_gA35, PPp_gA36, PPp_gA37, PPp_sF7, PPp_sF9, WFp_sL, WFp_sF0, WFp_sF3, WFp_sF10, WFp_sF11, WFp_sF12, WFp_sF13, WFp_sF14, WFp_sF16, WFp_sF17, WFp_sF18, WFp_sF19, WFp_sF21, WFp_sF22, WFp_sF23, WFp_sF24, WFp_sF25, WFp_sF28, WFp_sF29, WFp_sF30, WFp_sF31, WFp_sF32, WFp_sF33, WFp_sF38, WFp_sF39, WFp_sF41, WFp_sF42, WFp_sF43, WFp_sF44, WFp_sF45, WFp_sF60, WFp_sF65, WFp_sF66, WFp_sF67, WFp_sF68, WFp_sF70, WFp_sF71, WFp_sF72, WFp_sF73, WFp_sF74, WFp_sF80, WFp_sF81, WFp_sF82, WFp_sF83, WFp_sF88, WFp_sF92, WFp_sF94, WFp_sF96, WFp_sF97, WFp_sF98, WFp_sF99, WFp_sF100, WFp_sF101, WFp_sF103, WFp_sF104, WFp_sF112, WFp_sF113, WFp_sF118, WFp_sF119, WFp_sF122, WFp_sF123, WFp_sF135, WFp_sF137, WFp_sA1, WFp_sA2, WFp_sA5, WFp_sA20, WFp_sA26, WFp_sA27, WFp_sA34, WFp_sA35, WFp_sA36, WFp_sA37, WFp_sA40, WFp_sA46, WFp_sA47, WFp_sA48, WFp_sA51, WFp_sA52, WFp_sA53, WFp_sA54, WFp_sA55, WFp_sA56, WFp_sA57, WFp_sA58, WFp_sA59, WFp_sA61, WFp_sA62, WFp_sA63, WFp_sA64, WFp_sA69, WFp_sA75, WFp_sA76, WFp_sA77, WFp_sA78, WFp_sA79, WFp_sA84, WFp_sA85, WFp_sA86, WFp_sA87, WFp_sA89, WFp_sA90, WFp_sA91, WFp_sA93, WFp_sA102, WFp_sA105, WFp_sA106, WFp_sA107, WFp_sA108, WFp_sA109, WFp_sA110, WFp_sA111, WFp_sA114, WFp_sA115, WFp_sA116, WFp_sA117, WFp_sA120, WFp_sA121, WFp_sA124, WFp_sA125, WFp_sA126, WFp_sA127, WFp_sA128, WFp_sA129, WFp_sA136, WFp_sA138, WFp_gA0, WFp_gA1, WFp_gA2, WFp_gA3, WFp_gA4, WFp_gA5, WFp_gA6, WFp_gA8, WFp_gA10, WFp_gA11, WFp_gA15, WFp_gA16, WFp_gA17, WFp_gA18, WFp_gA19, WFp_gA20, WFp_gA21, WFp_gA22, WFp_gA23, WFp_gA24, WFp_gA25, WFp_gA26, WFp_gA27, WFp_gA29, WFp_gA30, WFp_gA31, WFp_gA33, WFp_gA34, WFp_gA35, WFp_gA36, WFp_gA37, WFp_sF7, WFp_sF9] at *
  (repeat' (first | with_reducible intro _ | with_reducible apply And.intro))
  all_goals (first | assumption | omega | grind (splits := 20) [rNM_sF0])
set_option maxHeartbeats 400000 in
theorem vX14_feed_8 (σ : rS) (x1 : Int) (x2 : Int) (x3 : Int) (x4 : Int) (x5 : Int) (hwf : rWF σ) (hx1 : rng x1) (hx2 : rng x2) (hx3 : rng x3) (hx4 : rng x4) (hx5 : rng x5) (hp : pre_X14_feed σ x1 x2 x3 x4 x5) : VC_X14_feed_8 σ x1 x2 x3 x4 x5 (post_X14_feed σ x1 x2 x3 x4 x5) := by
  simp only [VC_X14_feed_8, pre_X14_feed, post_X14_feed, inv_X14_feed_8, mu_X14_feed_8, rng, rfk, rNMp, rF_sF, rF_sA, rF_sL, rF_sR, rA_sA, rA_sF, rA_sL, rA_sR, rR_sF, rR_sA, rR_sL, rR_sR, reduceIte, and_true, true_and, and_false, false_and, and_self, VMp_sL, VMp_sF0, VMp_sF3, VMp_sF10, VMp_sF11, VMp_sF12, VMp_sF13, VMp_sF14, VMp_sF16, VMp_sF17, VMp_sF18, VMp_sF19, VMp_sF21, VMp_sF22, VMp_sF23, VMp_sF24, VMp_sF25, VMp_sF28, VMp_sF29, VMp_sF30, VMp_sF31, VMp_sF32, VMp_sF33, VMp_sF38, VMp_sF39, VMp_sF41, VMp_sF42, VMp_sF43, VMp_sF44, VMp_sF45, VMp_sF60, VMp_sF65, VMp_sF66, VMp_sF67, VMp_sF68, VMp_sF70, VMp_sF71, VMp_sF72, VMp_sF73, VMp_sF74, VMp_sF80, VMp_sF81, VMp_sF82, VMp_sF83, VMp_sF88, VMp_sF92, VMp_sF94, VMp_sF96, VMp_sF97, VMp_sF98, VMp_sF99, VMp_sF100, VMp_sF101, VMp_sF103, VMp_sF104, VMp_sF112, VMp_sF113, VMp_sF118, VMp_sF119, VMp_sF122, VMp_sF123, VMp_sF135, VMp_sF137, VMp_sA1, VMp_sA2, VMp_sA5, VMp_sA20, VMp_sA26, VMp_sA27, VMp_sA34, VMp_sA35, VMp_sA36, VMp_sA37, VMp_sA40, VMp_sA47, VMp_sA48, VMp_sA49, VMp_sA50, VMp_sA52, VMp_sA53, VMp_sA54, VMp_sA55, VMp_sA56, VMp_sA57, VMp_sA58, VMp_sA59, VMp_sA61, VMp_sA62, VMp_sA63, VMp_sA64, VMp_sA69, VMp_sA75, VMp_sA76, VMp_sA77, VMp_sA78, VMp_sA79, VMp_sA84, VMp_sA85, VMp_sA86, VMp_sA87, VMp_sA89, VMp_sA90, VMp_sA91, VMp_sA93, VMp_sA102, VMp_sA105, VMp_sA106, VMp_sA107, VMp_sA108, VMp_sA109, VMp_sA110, VMp_sA111, VMp_sA114, VMp_sA115, VMp_sA116, VMp_sA117, VMp_sA120, VMp_sA121, VMp_sA124, VMp_sA125, VMp_sA126, VMp_sA127, VMp_sA128, VMp_sA129, VMp_sA136, VMp_sA138, VMp_gA0, VMp_gA1, VMp_gA2, VMp_gA3, VMp_gA4, VMp_gA5, VMp_gA6, VMp_gA8, VMp_gA10, VMp_gA11, VMp_gA15, VMp_gA16, VMp_gA17, VMp_gA18, VMp_gA19, VMp_gA20, VMp_gA21, VMp_gA22, VMp_gA23, VMp_gA24, VMp_gA25, VMp_gA26, VMp_gA27, VMp_gA29, VMp_gA30, VMp_gA31, VMp_gA33, VMp_gA34, VMp_gA35, VMp_gA36, VMp_gA37, VMp_sF7, VMp_sF9, KYp_sL, KYp_sF0, KYp_sF3, KYp_sF10, KYp_sF11, KYp_sF12, KYp_sF13, KYp_sF14, KYp_sF16, KYp_sF17, KYp_sF18, KYp_sF19, KYp_sF21, KYp_sF22, KYp_sF23, KYp_sF24, KYp_sF25, KYp_sF28, KYp_sF29, KYp_sF30, KYp_sF31, KYp_sF32, KYp_sF33, KYp_sF38, KYp_sF39, KYp_sF41, KYp_sF42, KYp_sF43, KYp_sF44, KYp_sF45, KYp_sF60, KYp_sF65, KYp_sF66, KYp_sF67, KYp_sF68, KYp_sF70, KYp_sF71, KYp_sF72, KYp_sF73, KYp_sF74, KYp_sF80, KYp_sF81, KYp_sF82, KYp_sF83, KYp_sF88, KYp_sF92, KYp_sF94, KYp_sF96, KYp_sF97, KYp_sF98, KYp_sF99, KYp_sF100, KYp_sF101, KYp_sF103, KYp_sF104, KYp_sF112, KYp_sF113, KYp_sF118, KYp_sF119, KYp_sF122, KYp_sF123, KYp_sF135, KYp_sF137, KYp_sA1, KYp_sA2, KYp_sA5, KYp_sA20, KYp_sA26, KYp_sA27, KYp_sA34, KYp_sA35, KYp_sA36, KYp_sA37, KYp_sA40, KYp_sA46, KYp_sA47, KYp_sA48, KYp_sA49, KYp_sA50, KYp_sA51, KYp_sA52, KYp_sA55, KYp_sA56, KYp_sA57, KYp_sA58, KYp_sA59, KYp_sA61, KYp_sA62, KYp_sA63, KYp_sA64, KYp_sA69, KYp_sA75, KYp_sA76, KYp_sA77, KYp_sA78, KYp_sA79, KYp_sA84, KYp_sA85, KYp_sA86, KYp_sA87, KYp_sA89, KYp_sA90, KYp_sA91, KYp_sA93, KYp_sA102, KYp_sA105, KYp_sA106, KYp_sA107, KYp_sA108, KYp_sA109, KYp_sA110, KYp_sA111, KYp_sA114, KYp_sA115, KYp_sA116, KYp_sA117, KYp_sA120, KYp_sA121, KYp_sA124, KYp_sA125, KYp_sA126, KYp_sA127, KYp_sA128, KYp_sA129, KYp_sA136, KYp_sA138, KYp_gA0, KYp_gA1, KYp_gA2, KYp_gA3, KYp_gA4, KYp_gA5, KYp_gA6, KYp_gA8, KYp_gA10, KYp_gA11, KYp_gA15, KYp_gA16, KYp_gA17, KYp_gA18, KYp_gA19, KYp_gA20, KYp_gA21, KYp_gA22, KYp_gA23, KYp_gA24, KYp_gA25, KYp_gA26, KYp_gA27, KYp_gA29, KYp_gA30, KYp_gA31, KYp_gA33, KYp_gA34, KYp_gA35, KYp_gA36, KYp_gA37, KYp_sF7, KYp_sF9, PPp_sL, PPp_sF0, PPp_sF3, PPp_sF10, PPp_sF11, PPp_sF12, PPp_sF13, PPp_sF14, PPp_sF16, PPp_sF17, PPp_sF18, PPp_sF19, PPp_sF21, PPp_sF22, PPp_sF23, PPp_sF24, PPp_sF25, PPp_sF28, PPp_sF29, PPp_sF30, PPp_sF31, PPp_sF32, PPp_sF33, PPp_sF38, PPp_sF39, PPp_sF41, PPp_sF42, PPp_sF43, PPp_sF44, PPp_sF45, PPp_sF60, PPp_sF65, PPp_sF66, PPp_sF67, PPp_sF68, PPp_sF70, PPp_sF71, PPp_sF72, PPp_sF73, PPp_sF74, PPp_sF80, PPp_sF81, PPp_sF82, PPp_sF83, PPp_sF88, PPp_sF92, PPp_sF94, PPp_sF96, PPp_sF97, PPp_sF98, PPp_sF99, PPp_sF100, PPp_sF101, PPp_sF103, PPp_sF104, PPp_sF112, PPp_sF113, PPp_sF118, PPp_sF119, PPp_sF122, PPp_sF123, PPp_sF135, PPp_sF137, PPp_sA1, PPp_sA2, PPp_sA5, PPp_sA20, PPp_sA26, PPp_sA27, PPp_sA34, PPp_sA35, PPp_sA36, PPp_sA37, PPp_sA40, PPp_sA46, PPp_sA47, PPp_sA48, PPp_sA49, PPp_sA50, PPp_sA51, PPp_sA52, PPp_sA53, PPp_sA54, PPp_sA55, PPp_sA58, PPp_sA59, PPp_sA61, PPp_sA62, PPp_sA63, PPp_sA64, PPp_sA69, PPp_sA75, PPp_sA76, PPp_sA77, PPp_sA78, PPp_sA79, PPp_sA84, PPp_sA85, PPp_sA86, PPp_sA87, PPp_sA89, PPp_sA90, PPp_sA91, PPp_sA93, PPp_sA102, PPp_sA105, PPp_sA106, PPp_sA107, PPp_sA108, PPp_sA109, PPp_sA110, PPp_sA111, PPp_sA114, PPp_sA115, PPp_sA116, PPp_sA117, PPp_sA120, PPp_sA121, PPp_sA124, PPp_sA125, PPp_sA126, PPp_sA127, PPp_sA128, PPp_sA129, PPp_sA136, PPp_sA138, PPp_gA0, PPp_gA1, PPp_gA2, PPp_gA3, PPp_gA4, PPp_gA5, PPp_gA6, PPp_gA8, PPp_gA10, PPp_gA11, PPp_gA15, PPp_gA16, PPp_gA17, PPp_gA18, PPp_gA19, PPp_gA20, PPp_gA21, PPp_gA22, PPp_gA23, PPp_gA24, PPp_gA25, PPp_gA26, PPp_gA27, PPp_gA29, PPp_gA30, PPp_gA31, PPp_gA33, PPp_gA34, PPp_gA35, PPp_gA36, PPp_gA37, PPp_sF7, PPp_sF9, WFp_sL, WFp_sF0, WFp_sF3, WFp_sF10, WFp_sF11, WFp_sF12, WFp_sF13, WFp_sF14, WFp_sF16, WFp_sF17, WFp_sF18, WFp_sF19, WFp_sF21, WFp_sF22, WFp_sF23, WFp_sF24, WFp_sF25, WFp_sF28, WFp_sF29, WFp_sF30, WFp_sF31, WFp_sF32, WFp_sF33, WFp_sF38, WFp_sF39, WFp_sF41, WFp_sF42, WFp_sF43, WFp_sF44, WFp_sF45, WFp_sF60, WFp_sF65, WFp_sF66, WFp_sF67, WFp_sF68, WFp_sF70, WFp_sF71, WFp_sF72, WFp_sF73, WFp_sF74, WFp_sF80, WFp_sF81, WFp_sF82, WFp_sF83, WFp_sF88, WFp_sF92, WFp_sF94, WFp_sF96, WFp_sF97, WFp_sF98, WFp_sF99, WFp_sF100, WFp_sF101, WFp_sF103, WFp_sF104, WFp_sF112, WFp_sF113, WFp_sF118, WFp_sF119, WFp_sF122, WFp_sF123, WFp_sF135, WFp_sF137, WFp_sA1, WFp_sA2, WFp_sA5, WFp_sA20, WFp_sA26, WFp_sA27, WFp_sA34, WFp_sA35, WFp_sA36, WFp_sA37, WFp_sA40, WFp_sA46, WFp_sA47, WFp_sA48, WFp_sA51, WFp_sA52, WFp_sA53, WFp_sA54, WFp_sA55, WFp_sA56, WFp_sA57, WFp_sA58, WFp_sA59, WFp_sA61, WFp_sA62, WFp_sA63, WFp_sA64, WFp_sA69, WFp_sA75, WFp_sA76, WFp_sA77, WFp_sA78, WFp_sA79, WFp_sA84, WFp_sA85, WFp_sA86, WFp_sA87, WFp_sA89, WFp_sA90, WFp_sA91, WFp_sA93, WFp_sA102, WFp_sA105, WFp_sA106, WFp_sA107, WFp_sA108, WFp_sA109, WFp_sA110, WFp_sA111, WFp_sA114, WFp_sA115, WFp_sA116, WFp_sA117, WFp_sA120, WFp_sA121, WFp_sA124, WFp_sA125, WFp_sA126, WFp_sA127, WFp_sA128, WFp_sA129, WFp_sA136, WFp_sA138, WFp_gA0, WFp_gA1, WFp_gA2, WFp_gA3, WFp_gA4, WFp_gA5, WFp_gA6, WFp_gA8, WFp_gA10, WFp_gA11, WFp_gA15, WFp_gA16, WFp_gA17, WFp_gA18, WFp_gA19, WFp_gA20, WFp_gA21, WFp_gA22, WFp_gA23, WFp_gA24, WFp_gA25, WFp_gA26, WFp_gA27, WFp_gA29, WFp_gA30, WFp_gA31, WFp_gA33, WFp_gA34, WFp_gA35, WFp_gA36, WFp_gA37, WFp_sF7, WFp_sF9] at *
  (repeat' (first | with_reducible intro _ | with_reducible apply And.intro))
  all_goals (first | assumption | omega | grind (splits := 20) [rNM_sF0])
set_option maxHeartbeats 400000 in
theorem vX14_feed_8m (σ : rS) (x1 : Int) (x2 : Int) (x3 : Int) (x4 : Int) (x5 : Int) (hwf : rWF σ) (hx1 : rng x1) (hx2 : rng x2) (hx3 : rng x3) (hx4 : rng x4) (hx5 : rng x5) (hp : pre_X14_feed σ x1 x2 x3 x4 x5) : VC_X14_feed_8m σ x1 x2 x3 x4 x5 := by
  simp only [VC_X14_feed_8m, pre_X14_feed, post_X14_feed, inv_X14_feed_8, mu_X14_feed_8, rng, rfk, rNMp, rF_sF, rF_sA, rF_sL, rF_sR, rA_sA, rA_sF, rA_sL, rA_sR, rR_sF, rR_sA, rR_sL, rR_sR, reduceIte, and_true, true_and, and_false, false_and, and_self, VMp_sL, VMp_sF0, VMp_sF3, VMp_sF10, VMp_sF11, VMp_sF12, VMp_sF13, VMp_sF14, VMp_sF16, VMp_sF17, VMp_sF18, VMp_sF19, VMp_sF21, VMp_sF22, VMp_sF23, VMp_sF24, VMp_sF25, VMp_sF28, VMp_sF29, VMp_sF30, VMp_sF31, VMp_sF32, VMp_sF33, VMp_sF38, VMp_sF39, VMp_sF41, VMp_sF42, VMp_sF43, VMp_sF44, VMp_sF45, VMp_sF60, VMp_sF65, VMp_sF66, VMp_sF67, VMp_sF68, VMp_sF70, VMp_sF71, VMp_sF72, VMp_sF73, VMp_sF74, VMp_sF80, VMp_sF81, VMp_sF82, VMp_sF83, VMp_sF88, VMp_sF92, VMp_sF94, VMp_sF96, VMp_sF97, VMp_sF98, VMp_sF99, VMp_sF100, VMp_sF101, VMp_sF103, VMp_sF104, VMp_sF112, VMp_sF113, VMp_sF118, VMp_sF119, VMp_sF122, VMp_sF123, VMp_sF135, VMp_sF137, VMp_sA1, VMp_sA2, VMp_sA5, VMp_sA20, VMp_sA26, VMp_sA27, VMp_sA34, VMp_sA35, VMp_sA36, VMp_sA37, VMp_sA40, VMp_sA47, VMp_sA48, VMp_sA49, VMp_sA50, VMp_sA52, VMp_sA53, VMp_sA54, VMp_sA55, VMp_sA56, VMp_sA57, VMp_sA58, VMp_sA59, VMp_sA61, VMp_sA62, VMp_sA63, VMp_sA64, VMp_sA69, VMp_sA75, VMp_sA76, VMp_sA77, VMp_sA78, VMp_sA79, VMp_sA84, VMp_sA85, VMp_sA86, VMp_sA87, VMp_sA89, VMp_sA90, VMp_sA91, VMp_sA93, VMp_sA102, VMp_sA105, VMp_sA106, VMp_sA107, VMp_sA108, VMp_sA109, VMp_sA110, VMp_sA111, VMp_sA114, VMp_sA115, VMp_sA116, VMp_sA117, VMp_sA120, VMp_sA121, VMp_sA124, VMp_sA125, VMp_sA126, VMp_sA127, VMp_sA128, VMp_sA129, VMp_sA136, VMp_sA138, VMp_gA0, VMp_gA1, VMp_gA2, VMp_gA3, VMp_gA4, VMp_gA5, VMp_gA6, VMp_gA8, VMp_gA10, VMp_gA11, VMp_gA15, VMp_gA16, VMp_gA17, VMp_gA18, VMp_gA19, VMp_gA20, VMp_gA21, VMp_gA22, VMp_gA23, VMp_gA24, VMp_gA25, VMp_gA26, VMp_gA27, VMp_gA29, VMp_gA30, VMp_gA31, VMp_gA33, VMp_gA34, VMp_gA35, VMp_gA36, VMp_gA37, VMp_sF7, VMp_sF9, KYp_sL, KYp_sF0, KYp_sF3, KYp_sF10, KYp_sF11, KYp_sF12, KYp_sF13, KYp_sF14, KYp_sF16, KYp_sF17, KYp_sF18, KYp_sF19, KYp_sF21, KYp_sF22, KYp_sF23, KYp_sF24, KYp_sF25, KYp_sF28, KYp_sF29, KYp_sF30, KYp_sF31, KYp_sF32, KYp_sF33, KYp_sF38, KYp_sF39, KYp_sF41, KYp_sF42, KYp_sF43, KYp_sF44, KYp_sF45, KYp_sF60, KYp_sF65, KYp_sF66, KYp_sF67, KYp_sF68, KYp_sF70, KYp_sF71, KYp_sF72, KYp_sF73, KYp_sF74, KYp_sF80, KYp_sF81, KYp_sF82, KYp_sF83, KYp_sF88, KYp_sF92, KYp_sF94, KYp_sF96, KYp_sF97, KYp_sF98, KYp_sF99, KYp_sF100, KYp_sF101, KYp_sF103, KYp_sF104, KYp_sF112, KYp_sF113, KYp_sF118, KYp_sF119, KYp_sF122, KYp_sF123, KYp_sF135, KYp_sF137, KYp_sA1, KYp_sA2, KYp_sA5, KYp_sA20, KYp_sA26, KYp_sA27, KYp_sA34, KYp_sA35, KYp_sA36, KYp_sA37, KYp_sA40, KYp_sA46, KYp_sA47, KYp_sA48, KYp_sA49, KYp_sA50, KYp_sA51, KYp_sA52, KYp_sA55, KYp_sA56, KYp_sA57, KYp_sA58, KYp_sA59, KYp_sA61, KYp_sA62, KYp_sA63, KYp_sA64, KYp_sA69, KYp_sA75, KYp_sA76, KYp_sA77, KYp_sA78, KYp_sA79, KYp_sA84, KYp_sA85, KYp_sA86, KYp_sA87, KYp_sA89, KYp_sA90, KYp_sA91, KYp_sA93, KYp_sA102, KYp_sA105, KYp_sA106, KYp_sA107, KYp_sA108, KYp_sA109, KYp_sA110, KYp_sA111, KYp_sA114, KYp_sA115, KYp_sA116, KYp_sA117, KYp_sA120, KYp_sA121, KYp_sA124, KYp_sA125, KYp_sA126, KYp_sA127, KYp_sA128, KYp_sA129, KYp_sA136, KYp_sA138, KYp_gA0, KYp_gA1, KYp_gA2, KYp_gA3, KYp_gA4, KYp_gA5, KYp_gA6, KYp_gA8, KYp_gA10, KYp_gA11, KYp_gA15, KYp_gA16, KYp_gA17, KYp_gA18, KYp_gA19, KYp_gA20, KYp_gA21, KYp_gA22, KYp_gA23, KYp_gA24, KYp_gA25, KYp_gA26, KYp_gA27, KYp_gA29, KYp_gA30, KYp_gA31, KYp_gA33, KYp_gA34, KYp_gA35, KYp_gA36, KYp_gA37, KYp_sF7, KYp_sF9, PPp_sL, PPp_sF0, PPp_sF3, PPp_sF10, PPp_sF11, PPp_sF12, PPp_sF13, PPp_sF14, PPp_sF16, PPp_sF17, PPp_sF18, PPp_sF19, PPp_sF21, PPp_sF22, PPp_sF23, PPp_sF24, PPp_sF25, PPp_sF28, PPp_sF29, PPp_sF30, PPp_sF31, PPp_sF32, PPp_sF33, PPp_sF38, PPp_sF39, PPp_sF41, PPp_sF42, PPp_sF43, PPp_sF44, PPp_sF45, PPp_sF60, PPp_sF65, PPp_sF66, PPp_sF67, PPp_sF68, PPp_sF70, PPp_sF71, PPp_sF72, PPp_sF73, PPp_sF74, PPp_sF80, PPp_sF81, PPp_sF82, PPp_sF83, PPp_sF88, PPp_sF92, PPp_sF94, PPp_sF96, PPp_sF97, PPp_sF98, PPp_sF99, PPp_sF100, PPp_sF101, PPp_sF103, PPp_sF104, PPp_sF112, PPp_sF113, PPp_sF118, PPp_sF119, PPp_sF122, PPp_sF123, PPp_sF135, PPp_sF137, PPp_sA1, PPp_sA2, PPp_sA5, PPp_sA20, PPp_sA26, PPp_sA27, PPp_sA34, PPp_sA35, PPp_sA36, PPp_sA37, PPp_sA40, PPp_sA46, PPp_sA47, PPp_sA48, PPp_sA49, PPp_sA50, PPp_sA51, PPp_sA52, PPp_sA53, PPp_sA54, PPp_sA55, PPp_sA58, PPp_sA59, PPp_sA61, PPp_sA62, PPp_sA63, PPp_sA64, PPp_sA69, PPp_sA75, PPp_sA76, PPp_sA77, PPp_sA78, PPp_sA79, PPp_sA84, PPp_sA85, PPp_sA86, PPp_sA87, PPp_sA89, PPp_sA90, PPp_sA91, PPp_sA93, PPp_sA102, PPp_sA105, PPp_sA106, PPp_sA107, PPp_sA108, PPp_sA109, PPp_sA110, PPp_sA111, PPp_sA114, PPp_sA115, PPp_sA116, PPp_sA117, PPp_sA120, PPp_sA121, PPp_sA124, PPp_sA125, PPp_sA126, PPp_sA127, PPp_sA128, PPp_sA129, PPp_sA136, PPp_sA138, PPp_gA0, PPp_gA1, PPp_gA2, PPp_gA3, PPp_gA4, PPp_gA5, PPp_gA6, PPp_gA8, PPp_gA10, PPp_gA11, PPp_gA15, PPp_gA16, PPp_gA17, PPp_gA18, PPp_gA19, PPp_gA20, PPp_gA21, PPp_gA22, PPp_gA23, PPp_gA24, PPp_gA25, PPp_gA26, PPp_gA27, PPp_gA29, PPp_gA30, PPp_gA31, PPp_gA33, PPp_gA34, PPp_gA35, PPp_gA36, PPp_gA37, PPp_sF7, PPp_sF9, WFp_sL, WFp_sF0, WFp_sF3, WFp_sF10, WFp_sF11, WFp_sF12, WFp_sF13, WFp_sF14, WFp_sF16, WFp_sF17, WFp_sF18, WFp_sF19, WFp_sF21, WFp_sF22, WFp_sF23, WFp_sF24, WFp_sF25, WFp_sF28, WFp_sF29, WFp_sF30, WFp_sF31, WFp_sF32, WFp_sF33, WFp_sF38, WFp_sF39, WFp_sF41, WFp_sF42, WFp_sF43, WFp_sF44, WFp_sF45, WFp_sF60, WFp_sF65, WFp_sF66, WFp_sF67, WFp_sF68, WFp_sF70, WFp_sF71, WFp_sF72, WFp_sF73, WFp_sF74, WFp_sF80, WFp_sF81, WFp_sF82, WFp_sF83, WFp_sF88, WFp_sF92, WFp_sF94, WFp_sF96, WFp_sF97, WFp_sF98, WFp_sF99, WFp_sF100, WFp_sF101, WFp_sF103, WFp_sF104, WFp_sF112, WFp_sF113, WFp_sF118, WFp_sF119, WFp_sF122, WFp_sF123, WFp_sF135, WFp_sF137, WFp_sA1, WFp_sA2, WFp_sA5, WFp_sA20, WFp_sA26, WFp_sA27, WFp_sA34, WFp_sA35, WFp_sA36, WFp_sA37, WFp_sA40, WFp_sA46, WFp_sA47, WFp_sA48, WFp_sA51, WFp_sA52, WFp_sA53, WFp_sA54, WFp_sA55, WFp_sA56, WFp_sA57, WFp_sA58, WFp_sA59, WFp_sA61, WFp_sA62, WFp_sA63, WFp_sA64, WFp_sA69, WFp_sA75, WFp_sA76, WFp_sA77, WFp_sA78, WFp_sA79, WFp_sA84, WFp_sA85, WFp_sA86, WFp_sA87, WFp_sA89, WFp_sA90, WFp_sA91, WFp_sA93, WFp_sA102, WFp_sA105, WFp_sA106, WFp_sA107, WFp_sA108, WFp_sA109, WFp_sA110, WFp_sA111, WFp_sA114, WFp_sA115, WFp_sA116, WFp_sA117, WFp_sA120, WFp_sA121, WFp_sA124, WFp_sA125, WFp_sA126, WFp_sA127, WFp_sA128, WFp_sA129, WFp_sA136, WFp_sA138, WFp_gA0, WFp_gA1, WFp_gA2, WFp_gA3, WFp_gA4, WFp_gA5, WFp_gA6, WFp_gA8, WFp_gA10, WFp_gA11, WFp_gA15, WFp_gA16, WFp_gA17, WFp_gA18, WFp_gA19, WFp_gA20, WFp_gA21, WFp_gA22, WFp_gA23, WFp_gA24, WFp_gA25, WFp_gA26, WFp_gA27, WFp_gA29, WFp_gA30, WFp_gA31, WFp_gA33, WFp_gA34, WFp_gA35, WFp_gA36, WFp_gA37, WFp_sF7, WFp_sF9] at *
  (repeat' (first | with_reducible intro _ | with_reducible apply And.intro))
  all_goals (first | assumption | omega | grind (splits := 20) [rNM_sF0])
theorem wX14_feed (l : Launch) (G : zG) (κ : Nat → Nat) (σ : rS) (x1 : Int) (x2 : Int) (x3 : Int) (x4 : Int) (x5 : Int) (hwf : rWF σ) (hx1 : rng x1) (hx2 : rng x2) (hx3 : rng x3) (hx4 : rng x4) (hx5 : rng x5) (Q : rS → Prop) (h : VC_X14_feed σ x1 x2 x3 x4 x5 Q) (h_8 : VC_X14_feed_8 σ x1 x2 x3 x4 x5 Q) (h_8m : VC_X14_feed_8m σ x1 x2 x3 x4 x5) : rMv l G κ yX14_feed cX14_feed 7 1 0 [.ref (κ 0), iv x1, iv x2, iv x3, iv x4, iv x5] σ (fun s => rKeep 0x1 0 0x2 0 0 σ s ∧ Q s) := by
  refine zMv.intro (by decide +kernel) (Nat.le_of_ble_eq_true rfl) (fun X hC hR => ?_)
  refine z_aload_n hC (pc := 0) 0 dX14_feed_0 rfl rfl ?_
  refine z_iconst hC (pc := 1) (v := Int32.ofInt 0) dX14_feed_1 (by decide) ?_
  refine y_putI hC (pc := 2) zf14 rOb_0 0 (x := 0) dX14_feed_2 zw2468 (Or.inl rfl) rfl rfl (kk := ?_)
  have W10 := hwf.sF (q := 0) (f := 0) (x := 0) (r_lit rfl)
  refine z_iconst hC (pc := 5) (v := Int32.ofInt 0) dX14_feed_5 (by decide) ?_
  refine z_istore hC (pc := 6) (lv' := [(6, iv 0), (0, .ref (κ 0)), (1, iv x1), (2, iv x2), (3, iv x3), (4, iv x4), (5, iv x5)]) dX14_feed_6 (by decide) rfl ?_
  have j8 : ∀ (d8 : Nat), ∀ (s11 : rS) (y12 : Int), rWF s11 → rng y12 → rKeep 0x1 0 0x2 0 0 σ s11 → inv_X14_feed_8 σ x1 x2 x3 x4 x5 s11 y12 → (mu_X14_feed_8 σ x1 x2 x3 x4 x5 s11 y12) ≤ d8 → zS X G 7 (rW G κ s11) [(0, .ref (κ 0)), (1, iv x1), (2, iv x2), (3, iv x3), (4, iv x4), (5, iv x5), (6, iv y12)] 0 0 8 [] := by
    intro d8
    induction d8 with
    | zero =>
      intro s11 y12 Ws11 hy12 kJ hI hmu
      exact absurd hmu (by have := h_8m  s11 y12 Ws11 hy12 (VMp.keep kJ rfl rfl) (KYp.keep kJ rfl rfl) (PPp.keep kJ rfl rfl) (WFp.keep kJ rfl rfl) (kJ.F rfl) (kJ.F rfl) (kJ.F rfl) (kJ.F rfl) (kJ.F rfl) hI; omega)
    | succ d8 ih8 =>
      intro s11 y12 Ws11 hy12 kJ hI hmu8
      have h := h_8  s11 y12 Ws11 hy12 (VMp.keep kJ rfl rfl) (KYp.keep kJ rfl rfl) (PPp.keep kJ rfl rfl) (WFp.keep kJ rfl rfl) (kJ.F rfl) (kJ.F rfl) (kJ.F rfl) (kJ.F rfl) (kJ.F rfl) hI
      refine z_iload hC (pc := 8) 6 dX14_feed_8 rfl ?_
      refine z_iconst hC (pc := 10) (v := Int32.ofInt 4) dX14_feed_10 (by decide) ?_
      obtain ⟨hT, hF⟩ := h
      refine y_icmp_ge hC (pc := 11) 123 hy12 (r_lit rfl) dX14_feed_11 (by decide) (fun c => ?_) (fun c => ?_)
      · have h := hT c
        exact y_retv hR dX14_feed_123 Ws11 (Nat.le_of_ble_eq_true rfl) (Nat.le_of_ble_eq_true rfl) ⟨(rKeep.tr rKeep.rf kJ rfl rfl rfl rfl rfl), h⟩
      · have h := hF c
        refine z_aload_n hC (pc := 14) 0 dX14_feed_14 rfl rfl ?_
        refine y_get hC (pc := 15) zf14 rOb_0 1 (v := .ref (κ 1001)) dX14_feed_15 zw2469 (rv_c rfl) (kk := ?_)
        refine z_iload hC (pc := 18) 6 dX14_feed_18 rfl ?_
        refine z_iload_n hC (pc := 20) 1 dX14_feed_20 rfl rfl ?_
        refine z_bipush hC (pc := 21) (v := Int32.ofInt 24) dX14_feed_21 (by decide) ?_
        refine z_bipush hC (pc := 23) (v := Int32.ofInt 8) dX14_feed_23 (by decide) ?_
        refine z_iload hC (pc := 25) 6 dX14_feed_25 rfl ?_
        refine y_imul hC (pc := 27) (v := (8 * y12)) dX14_feed_27 rfl ?_
        refine y_isub hC (pc := 28) (v := (24 - (8 * y12))) dX14_feed_28 rfl ?_
        refine y_ishr hC (pc := 29) dX14_feed_29 ?_
        refine y_i2b hC (pc := 30) dX14_feed_30 ?_
        obtain ⟨b13, h⟩ := h
        refine y_bast hC (pc := 31) (rAr_m rfl) dX14_feed_31 b13 (v := (f_i2b (f_ishr x1 (24 - (8 * y12))))) (kk := ?_)
        have W14 := Ws11.sA (p := 1001) (i := y12) (x := (inar .byte (f_i2b (f_ishr x1 (24 - (8 * y12)))))) (inar_rng _ _)
        refine z_aload_n hC (pc := 32) 0 dX14_feed_32 rfl rfl ?_
        refine y_get hC (pc := 33) zf14 rOb_0 1 (v := .ref (κ 1001)) dX14_feed_33 zw2469 (rv_c rfl) (kk := ?_)
        refine z_iconst hC (pc := 36) (v := Int32.ofInt 4) dX14_feed_36 (by decide) ?_
        refine z_iload hC (pc := 37) 6 dX14_feed_37 rfl ?_
        refine y_iadd hC (pc := 39) (v := (4 + y12)) dX14_feed_39 rfl ?_
        refine z_iload_n hC (pc := 40) 2 dX14_feed_40 rfl rfl ?_
        refine z_bipush hC (pc := 41) (v := Int32.ofInt 24) dX14_feed_41 (by decide) ?_
        refine z_bipush hC (pc := 43) (v := Int32.ofInt 8) dX14_feed_43 (by decide) ?_
        refine z_iload hC (pc := 45) 6 dX14_feed_45 rfl ?_
        refine y_imul hC (pc := 47) (v := (8 * y12)) dX14_feed_47 rfl ?_
        refine y_isub hC (pc := 48) (v := (24 - (8 * y12))) dX14_feed_48 rfl ?_
        refine y_ishr hC (pc := 49) dX14_feed_49 ?_
        refine y_i2b hC (pc := 50) dX14_feed_50 ?_
        obtain ⟨b15, h⟩ := h
        refine y_bast hC (pc := 51) (rAr_m rfl) dX14_feed_51 b15 (v := (f_i2b (f_ishr x2 (24 - (8 * y12))))) (kk := ?_)
        have W16 := W14.sA (p := 1001) (i := (4 + y12)) (x := (inar .byte (f_i2b (f_ishr x2 (24 - (8 * y12)))))) (inar_rng _ _)
        refine z_aload_n hC (pc := 52) 0 dX14_feed_52 rfl rfl ?_
        refine y_get hC (pc := 53) zf14 rOb_0 1 (v := .ref (κ 1001)) dX14_feed_53 zw2469 (rv_c rfl) (kk := ?_)
        refine z_bipush hC (pc := 56) (v := Int32.ofInt 8) dX14_feed_56 (by decide) ?_
        refine z_iload hC (pc := 58) 6 dX14_feed_58 rfl ?_
        refine y_iadd hC (pc := 60) (v := (8 + y12)) dX14_feed_60 rfl ?_
        refine z_iload_n hC (pc := 61) 3 dX14_feed_61 rfl rfl ?_
        refine z_bipush hC (pc := 62) (v := Int32.ofInt 24) dX14_feed_62 (by decide) ?_
        refine z_bipush hC (pc := 64) (v := Int32.ofInt 8) dX14_feed_64 (by decide) ?_
        refine z_iload hC (pc := 66) 6 dX14_feed_66 rfl ?_
        refine y_imul hC (pc := 68) (v := (8 * y12)) dX14_feed_68 rfl ?_
        refine y_isub hC (pc := 69) (v := (24 - (8 * y12))) dX14_feed_69 rfl ?_
        refine y_ishr hC (pc := 70) dX14_feed_70 ?_
        refine y_i2b hC (pc := 71) dX14_feed_71 ?_
        obtain ⟨b17, h⟩ := h
        refine y_bast hC (pc := 72) (rAr_m rfl) dX14_feed_72 b17 (v := (f_i2b (f_ishr x3 (24 - (8 * y12))))) (kk := ?_)
        have W18 := W16.sA (p := 1001) (i := (8 + y12)) (x := (inar .byte (f_i2b (f_ishr x3 (24 - (8 * y12)))))) (inar_rng _ _)
        refine z_aload_n hC (pc := 73) 0 dX14_feed_73 rfl rfl ?_
        refine y_get hC (pc := 74) zf14 rOb_0 1 (v := .ref (κ 1001)) dX14_feed_74 zw2469 (rv_c rfl) (kk := ?_)
        refine z_bipush hC (pc := 77) (v := Int32.ofInt 12) dX14_feed_77 (by decide) ?_
        refine z_iload hC (pc := 79) 6 dX14_feed_79 rfl ?_
        refine y_iadd hC (pc := 81) (v := (12 + y12)) dX14_feed_81 rfl ?_
        refine z_iload hC (pc := 82) 4 dX14_feed_82 rfl ?_
        refine z_bipush hC (pc := 84) (v := Int32.ofInt 24) dX14_feed_84 (by decide) ?_
        refine z_bipush hC (pc := 86) (v := Int32.ofInt 8) dX14_feed_86 (by decide) ?_
        refine z_iload hC (pc := 88) 6 dX14_feed_88 rfl ?_
        refine y_imul hC (pc := 90) (v := (8 * y12)) dX14_feed_90 rfl ?_
        refine y_isub hC (pc := 91) (v := (24 - (8 * y12))) dX14_feed_91 rfl ?_
        refine y_ishr hC (pc := 92) dX14_feed_92 ?_
        refine y_i2b hC (pc := 93) dX14_feed_93 ?_
        obtain ⟨b19, h⟩ := h
        refine y_bast hC (pc := 94) (rAr_m rfl) dX14_feed_94 b19 (v := (f_i2b (f_ishr x4 (24 - (8 * y12))))) (kk := ?_)
        have W20 := W18.sA (p := 1001) (i := (12 + y12)) (x := (inar .byte (f_i2b (f_ishr x4 (24 - (8 * y12)))))) (inar_rng _ _)
        refine z_aload_n hC (pc := 95) 0 dX14_feed_95 rfl rfl ?_
        refine y_get hC (pc := 96) zf14 rOb_0 1 (v := .ref (κ 1001)) dX14_feed_96 zw2469 (rv_c rfl) (kk := ?_)
        refine z_bipush hC (pc := 99) (v := Int32.ofInt 16) dX14_feed_99 (by decide) ?_
        refine z_iload hC (pc := 101) 6 dX14_feed_101 rfl ?_
        refine y_iadd hC (pc := 103) (v := (16 + y12)) dX14_feed_103 rfl ?_
        refine z_iload hC (pc := 104) 5 dX14_feed_104 rfl ?_
        refine z_bipush hC (pc := 106) (v := Int32.ofInt 24) dX14_feed_106 (by decide) ?_
        refine z_bipush hC (pc := 108) (v := Int32.ofInt 8) dX14_feed_108 (by decide) ?_
        refine z_iload hC (pc := 110) 6 dX14_feed_110 rfl ?_
        refine y_imul hC (pc := 112) (v := (8 * y12)) dX14_feed_112 rfl ?_
        refine y_isub hC (pc := 113) (v := (24 - (8 * y12))) dX14_feed_113 rfl ?_
        refine y_ishr hC (pc := 114) dX14_feed_114 ?_
        refine y_i2b hC (pc := 115) dX14_feed_115 ?_
        obtain ⟨b21, h⟩ := h
        refine y_bast hC (pc := 116) (rAr_m rfl) dX14_feed_116 b21 (v := (f_i2b (f_ishr x5 (24 - (8 * y12))))) (kk := ?_)
        have W22 := W20.sA (p := 1001) (i := (16 + y12)) (x := (inar .byte (f_i2b (f_ishr x5 (24 - (8 * y12)))))) (inar_rng _ _)
        refine y_iinc hC (pc := 117) (v := (y12 + 1)) (lv' := [(6, iv (y12 + 1)), (0, .ref (κ 0)), (1, iv x1), (2, iv x2), (3, iv x3), (4, iv x4), (5, iv x5)]) 6 dX14_feed_117 rfl rfl (by decide) rfl ?_
        refine z_goto hC (pc := 120) 8 dX14_feed_120 (by decide) ?_
        refine z_lvs [1, 2, 3, 4, 5, 6, 0] rfl ?_
        obtain ⟨r23, h⟩ := h
        obtain ⟨hI, hm⟩ := h
        exact ih8 (sA (sA (sA (sA (sA s11 1001 y12 (inar .byte (f_i2b (f_ishr x1 (24 - (8 * y12)))))) 1001 (4 + y12) (inar .byte (f_i2b (f_ishr x2 (24 - (8 * y12)))))) 1001 (8 + y12) (inar .byte (f_i2b (f_ishr x3 (24 - (8 * y12)))))) 1001 (12 + y12) (inar .byte (f_i2b (f_ishr x4 (24 - (8 * y12)))))) 1001 (16 + y12) (inar .byte (f_i2b (f_ishr x5 (24 - (8 * y12)))))) (y12 + 1) W22 r23 (rKeep.tr (rKeep.tr (rKeep.tr (rKeep.tr (rKeep.tr (rKeep.tr rKeep.rf kJ rfl rfl rfl rfl rfl) (rKeep.sA0 (f := 1) (by decide)) rfl rfl rfl rfl rfl) (rKeep.sA0 (f := 1) (by decide)) rfl rfl rfl rfl rfl) (rKeep.sA0 (f := 1) (by decide)) rfl rfl rfl rfl rfl) (rKeep.sA0 (f := 1) (by decide)) rfl rfl rfl rfl rfl) (rKeep.sA0 (f := 1) (by decide)) rfl rfl rfl rfl rfl) hI (by omega)
  refine z_lvs [1, 2, 3, 4, 5, 6, 0] rfl ?_
  exact j8 _ (sF σ 0 0 0) 0 W10 (r_lit rfl) (rKeep.tr rKeep.rf (rKeep.sF0 (f := 0)) rfl rfl rfl rfl rfl) h (Nat.le_refl _)
theorem kX14_feed (l : Launch) (G : zG) (κ : Nat → Nat) (σ : rS) (x1 : Int) (x2 : Int) (x3 : Int) (x4 : Int) (x5 : Int) (hwf : rWF σ) (hx1 : rng x1) (hx2 : rng x2) (hx3 : rng x3) (hx4 : rng x4) (hx5 : rng x5) (hp : pre_X14_feed σ x1 x2 x3 x4 x5) : rMv l G κ yX14_feed cX14_feed 7 1 0 [.ref (κ 0), iv x1, iv x2, iv x3, iv x4, iv x5] σ (fun s => rKeep 0x1 0 0x2 0 0 σ s ∧ post_X14_feed σ x1 x2 x3 x4 x5 s) := wX14_feed l G κ σ x1 x2 x3 x4 x5 hwf hx1 hx2 hx3 hx4 hx5 (post_X14_feed σ x1 x2 x3 x4 x5) (vX14_feed σ x1 x2 x3 x4 x5 hwf hx1 hx2 hx3 hx4 hx5 hp) (vX14_feed_8 σ x1 x2 x3 x4 x5 hwf hx1 hx2 hx3 hx4 hx5 hp) (vX14_feed_8m σ x1 x2 x3 x4 x5 hwf hx1 hx2 hx3 hx4 hx5 hp)
def pre_X14_end (σ : rS) (x1 : Int) : Prop := 0 ≤ (rF σ 0 43) ∧ (rF σ 0 43) ≤ 500 ∧ 0 ≤ (rF σ 0 45) ∧ (rF σ 0 45) ≤ 16000 ∧ 0 ≤ (rF σ 0 44) ∧ (rF σ 0 44) ≤ 4000 ∧ 0 ≤ (rF σ 0 60) ∧ (rF σ 0 60) ≤ 40 ∧ 0 ≤ (rF σ 0 3) ∧ (rF σ 0 3) ≤ 4000 ∧ VMp σ ∧ KYp σ ∧ PPp σ ∧ WFp σ
def post_X14_end (σ : rS) (x1 : Int) (r : Int) (σ' : rS) : Prop := 0 ≤ (rF σ' 0 43) ∧ (rF σ' 0 43) ≤ 500 ∧ 0 ≤ (rF σ' 0 45) ∧ (rF σ' 0 45) ≤ 16000 ∧ 0 ≤ (rF σ' 0 44) ∧ (rF σ' 0 44) ≤ 4000 ∧ 0 ≤ (rF σ' 0 60) ∧ (rF σ' 0 60) ≤ 40 ∧ 0 ≤ (rF σ' 0 3) ∧ (rF σ' 0 3) ≤ 4000 ∧ VMp σ' ∧ KYp σ' ∧ PPp σ' ∧ WFp σ'
def inv_X14_end_31 (σ : rS) (x1 : Int)  (s : rS) (k : Int) : Prop := 0 ≤ k ∧ k ≤ x1 ∧ 0 ≤ x1 ∧ x1 ≤ 20 ∧ (rF σ 0 3) + x1 ≤ 4000 ∧ (rF s 0 3) = (rF σ 0 3)
def mu_X14_end_31 (σ : rS) (x1 : Int) (s : rS) (k : Int) : Nat := (1 + (x1 - k).toNat)
def inv_X14_end_61 (σ : rS) (x1 : Int)  (s : rS) (k : Int) : Prop := 0 ≤ k ∧ k ≤ 20 ∧ 0 ≤ x1 ∧ x1 ≤ 20 ∧ (rF σ 0 3) + x1 ≤ 4000 ∧ (rF s 0 3) = (rF σ 0 3)
def mu_X14_end_61 (σ : rS) (x1 : Int) (s : rS) (k : Int) : Nat := (1 + (20 - k).toNat)
def VC_X14_end (σ : rS) (x1 : Int) (Q : Int → rS → Prop) : Prop := ((x1 < 0 → Q (-1) (sF σ 0 0 0)) ∧ (¬ x1 < 0 → ((20 < x1 → Q (-1) (sF σ 0 0 0)) ∧ (¬ 20 < x1 → (rng (rF σ 0 3) → rng ((rF σ 0 3) + x1) ∧ ((((rF σ 0 3) + x1) ≤ 4000 → (inv_X14_end_31 σ x1 (sF σ 0 0 0) 0)) ∧ (¬ ((rF σ 0 3) + x1) ≤ 4000 → Q (-1) (sF σ 0 0 0))))))))
def VC_X14_end_61 (σ : rS) (x1 : Int) (Q : Int → rS → Prop) : Prop := ∀ (s14 : rS) (y15 : Int), rWF s14 → rng y15 → (VMp σ → VMp s14) → (KYp σ → KYp s14) → (PPp σ → PPp s14) → (WFp σ → WFp s14) → rF s14 0 43 = rF σ 0 43 → rF s14 0 44 = rF σ 0 44 → rF s14 0 45 = rF σ 0 45 → rF s14 0 60 = rF σ 0 60 → inv_X14_end_61 σ x1 s14 y15 → (((20 ≤ y15 → (rng (rF s14 0 3) → rng ((rF s14 0 3) + x1) ∧ Q ((rF s14 0 3) + x1) (sF s14 0 3 ((rF s14 0 3) + x1)))) ∧ (¬ 20 ≤ y15 → (0 ≤ y15 ∧ y15 < 20) ∧ rng (y15 + 1) ∧ (inv_X14_end_61 σ x1 (sA s14 1001 y15 (inar .byte 0)) (y15 + 1) ∧ (mu_X14_end_61 σ x1 (sA s14 1001 y15 (inar .byte 0)) (y15 + 1)) < (mu_X14_end_61 σ x1 s14 y15)))))
def VC_X14_end_61m (σ : rS) (x1 : Int) : Prop := ∀ (s14 : rS) (y15 : Int), rWF s14 → rng y15 → (VMp σ → VMp s14) → (KYp σ → KYp s14) → (PPp σ → PPp s14) → (WFp σ → WFp s14) → rF s14 0 43 = rF σ 0 43 → rF s14 0 44 = rF σ 0 44 → rF s14 0 45 = rF σ 0 45 → rF s14 0 60 = rF σ 0 60 → inv_X14_end_61 σ x1 s14 y15 → 0 < (mu_X14_end_61 σ x1 s14 y15)
def VC_X14_end_31 (σ : rS) (x1 : Int) (Q : Int → rS → Prop) : Prop := ∀ (s12 : rS) (y13 : Int), rWF s12 → rng y13 → (VMp σ → VMp s12) → (KYp σ → KYp s12) → (PPp σ → PPp s12) → (WFp σ → WFp s12) → rF s12 0 43 = rF σ 0 43 → rF s12 0 44 = rF σ 0 44 → rF s12 0 45 = rF σ 0 45 → rF s12 0 60 = rF σ 0 60 → inv_X14_end_31 σ x1 s12 y13 → (((x1 ≤ y13 → (inv_X14_end_61 σ x1 s12 0)) ∧ (¬ x1 ≤ y13 → (rng (rF s12 0 3) → (0 ≤ y13 ∧ y13 < 20) ∧ (rng (rA s12 1001 y13) → (0 ≤ ((rF s12 0 3) + y13) ∧ ((rF s12 0 3) + y13) < 4000) ∧ rng (y13 + 1) ∧ (inv_X14_end_31 σ x1 (sA s12 1002 ((rF s12 0 3) + y13) (inar .byte (rA s12 1001 y13))) (y13 + 1) ∧ (mu_X14_end_31 σ x1 (sA s12 1002 ((rF s12 0 3) + y13) (inar .byte (rA s12 1001 y13))) (y13 + 1)) < (mu_X14_end_31 σ x1 s12 y13)))))))
def VC_X14_end_31m (σ : rS) (x1 : Int) : Prop := ∀ (s12 : rS) (y13 : Int), rWF s12 → rng y13 → (VMp σ → VMp s12) → (KYp σ → KYp s12) → (PPp σ → PPp s12) → (WFp σ → WFp s12) → rF s12 0 43 = rF σ 0 43 → rF s12 0 44 = rF σ 0 44 → rF s12 0 45 = rF σ 0 45 → rF s12 0 60 = rF σ 0 60 → inv_X14_end_31 σ x1 s12 y13 → 0 < (mu_X14_end_31 σ x1 s12 y13)
set_option maxHeartbeats 400000 in
theorem vX14_end (σ : rS) (x1 : Int) (hwf : rWF σ) (hx1 : rng x1) (hp : pre_X14_end σ x1) : VC_X14_end σ x1 (post_X14_end σ x1) := by
  simp only [VC_X14_end, pre_X14_end, post_X14_end, inv_X14_end_31, inv_X14_end_61, mu_X14_end_31, mu_X14_end_61, rng, rfk, rNMp, rF_sF, rF_sA, rF_sL, rF_sR, rA_sA, rA_sF, rA_sL, rA_sR, rR_sF, rR_sA, rR_sL, rR_sR, reduceIte, and_true, true_and, and_false, false_and, and_self, VMp_sL, VMp_sF0, VMp_sF3, VMp_sF10, VMp_sF11, VMp_sF12, VMp_sF13, VMp_sF14, VMp_sF16, VMp_sF17, VMp_sF18, VMp_sF19, VMp_sF21, VMp_sF22, VMp_sF23, VMp_sF24, VMp_sF25, VMp_sF28, VMp_sF29, VMp_sF30, VMp_sF31, VMp_sF32, VMp_sF33, VMp_sF38, VMp_sF39, VMp_sF41, VMp_sF42, VMp_sF43, VMp_sF44, VMp_sF45, VMp_sF60, VMp_sF65, VMp_sF66, VMp_sF67, VMp_sF68, VMp_sF70, VMp_sF71, VMp_sF72, VMp_sF73, VMp_sF74, VMp_sF80, VMp_sF81, VMp_sF82, VMp_sF83, VMp_sF88, VMp_sF92, VMp_sF94, VMp_sF96, VMp_sF97, VMp_sF98, VMp_sF99, VMp_sF100, VMp_sF101, VMp_sF103, VMp_sF104, VMp_sF112, VMp_sF113, VMp_sF118, VMp_sF119, VMp_sF122, VMp_sF123, VMp_sF135, VMp_sF137, VMp_sA1, VMp_sA2, VMp_sA5, VMp_sA20, VMp_sA26, VMp_sA27, VMp_sA34, VMp_sA35, VMp_sA36, VMp_sA37, VMp_sA40, VMp_sA47, VMp_sA48, VMp_sA49, VMp_sA50, VMp_sA52, VMp_sA53, VMp_sA54, VMp_sA55, VMp_sA56, VMp_sA57, VMp_sA58, VMp_sA59, VMp_sA61, VMp_sA62, VMp_sA63, VMp_sA64, VMp_sA69, VMp_sA75, VMp_sA76, VMp_sA77, VMp_sA78, VMp_sA79, VMp_sA84, VMp_sA85, VMp_sA86, VMp_sA87, VMp_sA89, VMp_sA90, VMp_sA91, VMp_sA93, VMp_sA102, VMp_sA105, VMp_sA106, VMp_sA107, VMp_sA108, VMp_sA109, VMp_sA110, VMp_sA111, VMp_sA114, VMp_sA115, VMp_sA116, VMp_sA117, VMp_sA120, VMp_sA121, VMp_sA124, VMp_sA125, VMp_sA126, VMp_sA127, VMp_sA128, VMp_sA129, VMp_sA136, VMp_sA138, VMp_gA0, VMp_gA1, VMp_gA2, VMp_gA3, VMp_gA4, VMp_gA5, VMp_gA6, VMp_gA8, VMp_gA10, VMp_gA11, VMp_gA15, VMp_gA16, VMp_gA17, VMp_gA18, VMp_gA19, VMp_gA20, VMp_gA21, VMp_gA22, VMp_gA23, VMp_gA24, VMp_gA25, VMp_gA26, VMp_gA27, VMp_gA29, VMp_gA30, VMp_gA31, VMp_gA33, VMp_gA34, VMp_gA35, VMp_gA36, VMp_gA37, VMp_sF7, VMp_sF9, KYp_sL, KYp_sF0, KYp_sF3, KYp_sF10, KYp_sF11, KYp_sF12, KYp_sF13, KYp_sF14, KYp_sF16, KYp_sF17, KYp_sF18, KYp_sF19, KYp_sF21, KYp_sF22, KYp_sF23, KYp_sF24, KYp_sF25, KYp_sF28, KYp_sF29, KYp_sF30, KYp_sF31, KYp_sF32, KYp_sF33, KYp_sF38, KYp_sF39, KYp_sF41, KYp_sF42, KYp_sF43, KYp_sF44, KYp_sF45, KYp_sF60, KYp_sF65, KYp_sF66, KYp_sF67, KYp_sF68, KYp_sF70, KYp_sF71, KYp_sF72, KYp_sF73, KYp_sF74, KYp_sF80, KYp_sF81, KYp_sF82, KYp_sF83, KYp_sF88, KYp_sF92, KYp_sF94, KYp_sF96, KYp_sF97, KYp_sF98, KYp_sF99, KYp_sF100, KYp_sF101, KYp_sF103, KYp_sF104, KYp_sF112, KYp_sF113, KYp_sF118, KYp_sF119, KYp_sF122, KYp_sF123, KYp_sF135, KYp_sF137, KYp_sA1, KYp_sA2, KYp_sA5, KYp_sA20, KYp_sA26, KYp_sA27, KYp_sA34, KYp_sA35, KYp_sA36, KYp_sA37, KYp_sA40, KYp_sA46, KYp_sA47, KYp_sA48, KYp_sA49, KYp_sA50, KYp_sA51, KYp_sA52, KYp_sA55, KYp_sA56, KYp_sA57, KYp_sA58, KYp_sA59, KYp_sA61, KYp_sA62, KYp_sA63, KYp_sA64, KYp_sA69, KYp_sA75, KYp_sA76, KYp_sA77, KYp_sA78, KYp_sA79, KYp_sA84, KYp_sA85, KYp_sA86, KYp_sA87, KYp_sA89, KYp_sA90, KYp_sA91, KYp_sA93, KYp_sA102, KYp_sA105, KYp_sA106, KYp_sA107, KYp_sA108, KYp_sA109, KYp_sA110, KYp_sA111, KYp_sA114, KYp_sA115, KYp_sA116, KYp_sA117, KYp_sA120, KYp_sA121, KYp_sA124, KYp_sA125, KYp_sA126, KYp_sA127, KYp_sA128, KYp_sA129, KYp_sA136, KYp_sA138, KYp_gA0, KYp_gA1, KYp_gA2, KYp_gA3, KYp_gA4, KYp_gA5, KYp_gA6, KYp_gA8, KYp_gA10, KYp_gA11, KYp_gA15, KYp_gA16, KYp_gA17, KYp_gA18, KYp_gA19, KYp_gA20, KYp_gA21, KYp_gA22, KYp_gA23, KYp_gA24, KYp_gA25, KYp_gA26, KYp_gA27, KYp_gA29, KYp_gA30, KYp_gA31, KYp_gA33, KYp_gA34, KYp_gA35, KYp_gA36, KYp_gA37, KYp_sF7, KYp_sF9, PPp_sL, PPp_sF0, PPp_sF3, PPp_sF10, PPp_sF11, PPp_sF12, PPp_sF13, PPp_sF14, PPp_sF16, PPp_sF17, PPp_sF18, PPp_sF19, PPp_sF21, PPp_sF22, PPp_sF23, PPp_sF24, PPp_sF25, PPp_sF28, PPp_sF29, PPp_sF30, PPp_sF31, PPp_sF32, PPp_sF33, PPp_sF38, PPp_sF39, PPp_sF41, PPp_sF42, PPp_sF43, PPp_sF44, PPp_sF45, PPp_sF60, PPp_sF65, PPp_sF66, PPp_sF67, PPp_sF68, PPp_sF70, PPp_sF71, PPp_sF72, PPp_sF73, PPp_sF74, PPp_sF80, PPp_sF81, PPp_sF82, PPp_sF83, PPp_sF88, PPp_sF92, PPp_sF94, PPp_sF96, PPp_sF97, PPp_sF98, PPp_sF99, PPp_sF100, PPp_sF101, PPp_sF103, PPp_sF104, PPp_sF112, PPp_sF113, PPp_sF118, PPp_sF119, PPp_sF122, PPp_sF123, PPp_sF135, PPp_sF137, PPp_sA1, PPp_sA2, PPp_sA5, PPp_sA20, PPp_sA26, PPp_sA27, PPp_sA34, PPp_sA35, PPp_sA36, PPp_sA37, PPp_sA40, PPp_sA46, PPp_sA47, PPp_sA48, PPp_sA49, PPp_sA50, PPp_sA51, PPp_sA52, PPp_sA53, PPp_sA54, PPp_sA55, PPp_sA58, PPp_sA59, PPp_sA61, PPp_sA62, PPp_sA63, PPp_sA64, PPp_sA69, PPp_sA75, PPp_sA76, PPp_sA77, PPp_sA78, PPp_sA79, PPp_sA84, PPp_sA85, PPp_sA86, PPp_sA87, PPp_sA89, PPp_sA90, PPp_sA91, PPp_sA93, PPp_sA102, PPp_sA105, PPp_sA106, PPp_sA107, PPp_sA108, PPp_sA109, PPp_sA110, PPp_sA111, PPp_sA114, PPp_sA115, PPp_sA116, PPp_sA117, PPp_sA120, PPp_sA121, PPp_sA124, PPp_sA125, PPp_sA126, PPp_sA127, PPp_sA128, PPp_sA129, PPp_sA136, PPp_sA138, PPp_gA0, PPp_gA1, PPp_gA2, PPp_gA3, PPp_gA4, PPp_gA5, PPp_gA6, PPp_gA8, PPp_gA10, PPp_gA11, PPp_gA15, PPp_gA16, PPp_gA17, PPp_gA18, PPp_gA19, PPp_gA20, PPp_gA21, PPp_gA22, PPp_gA23, PPp_gA24, PPp_gA25, PPp_gA26, PPp_gA27, PPp_gA29, PPp_gA30, PPp_gA31, PPp_gA33, PPp_gA34, PPp_gA35, PPp_gA36, PPp_gA37, PPp_sF7, PPp_sF9, WFp_sL, WFp_sF0, WFp_sF3, WFp_sF10, WFp_sF11, WFp_sF12, WFp_sF13, WFp_sF14, WFp_sF16, WFp_sF17, WFp_sF18, WFp_sF19, WFp_sF21, WFp_sF22, WFp_sF23, WFp_sF24, WFp_sF25, WFp_sF28, WFp_sF29, WFp_sF30, WFp_sF31, WFp_sF32, WFp_sF33, WFp_sF38, WFp_sF39, WFp_sF41, WFp_sF42, WFp_sF43, WFp_sF44, WFp_sF45, WFp_sF60, WFp_sF65, WFp_sF66, WFp_sF67, WFp_sF68, WFp_sF70, WFp_sF71, WFp_sF72, WFp_sF73, WFp_sF74, WFp_sF80, WFp_sF81, WFp_sF82, WFp_sF83, WFp_sF88, WFp_sF92, WFp_sF94, WFp_sF96, WFp_sF97, WFp_sF98, WFp_sF99, WFp_sF100, WFp_sF101, WFp_sF103, WFp_sF104, WFp_sF112, WFp_sF113, WFp_sF118, WFp_sF119, WFp_sF122, WFp_sF123, WFp_sF135, WFp_sF137, WFp_sA1, WFp_sA2, WFp_sA5, WFp_sA20, WFp_sA26, WFp_sA27, WFp_sA34, WFp_sA35, WFp_sA36, WFp_sA37, WFp_sA40, WFp_sA46, WFp_sA47, WFp_sA48, WFp_sA51, WFp_sA52, WFp_sA53, WFp_sA54, WFp_sA55, WFp_sA56, WFp_sA57, WFp_sA58, WFp_sA59, WFp_sA61, WFp_sA62, WFp_sA63, WFp_sA64, WFp_sA69, WFp_sA75, WFp_sA76, WFp_sA77, WFp_sA78, WFp_sA79, WFp_sA84, WFp_sA85, WFp_sA86, WFp_sA87, WFp_sA89, WFp_sA90, WFp_sA91, WFp_sA93, WFp_sA102, WFp_sA105, WFp_sA106, WFp_sA107, WFp_sA108, WFp_sA109, WFp_sA110, WFp_sA111, WFp_sA114, WFp_sA115, WFp_sA116, WFp_sA117, WFp_sA120, WFp_sA121, WFp_sA124, WFp_sA125, WFp_sA126, WFp_sA127, WFp_sA128, WFp_sA129, WFp_sA136, WFp_sA138, WFp_gA0, WFp_gA1, WFp_gA2, WFp_gA3, WFp_gA4, WFp_gA5, WFp_gA6, WFp_gA8, WFp_gA10, WFp_gA11, WFp_gA15, WFp_gA16, WFp_gA17, WFp_gA18, WFp_gA19, WFp_gA20, WFp_gA21, WFp_gA22, WFp_gA23, WFp_gA24, WFp_gA25, WFp_gA26, WFp_gA27, WFp_gA29, WFp_gA30, WFp_gA31, WFp_gA33, WFp_gA34, WFp_gA35, WFp_gA36, WFp_gA37, WFp_sF7, WFp_sF9] at *
  (repeat' (first | with_reducible intro _ | with_reducible apply And.intro))
  all_goals (first | assumption | omega | grind (splits := 20) [rNM_sF0])
set_option maxHeartbeats 400000 in
theorem vX14_end_61 (σ : rS) (x1 : Int) (hwf : rWF σ) (hx1 : rng x1) (hp : pre_X14_end σ x1) : VC_X14_end_61 σ x1 (post_X14_end σ x1) := by
  simp only [VC_X14_end_61, pre_X14_end, post_X14_end, inv_X14_end_31, inv_X14_end_61, mu_X14_end_31, mu_X14_end_61, rng, rfk, rNMp, rF_sF, rF_sA, rF_sL, rF_sR, rA_sA, rA_sF, rA_sL, rA_sR, rR_sF, rR_sA, rR_sL, rR_sR, reduceIte, and_true, true_and, and_false, false_and, and_self, VMp_sL, VMp_sF0, VMp_sF3, VMp_sF10, VMp_sF11, VMp_sF12, VMp_sF13, VMp_sF14, VMp_sF16, VMp_sF17, VMp_sF18, VMp_sF19, VMp_sF21, VMp_sF22, VMp_sF23, VMp_sF24, VMp_sF25, VMp_sF28, VMp_sF29, VMp_sF30, VMp_sF31, VMp_sF32, VMp_sF33, VMp_sF38, VMp_sF39, VMp_sF41, VMp_sF42, VMp_sF43, VMp_sF44, VMp_sF45, VMp_sF60, VMp_sF65, VMp_sF66, VMp_sF67, VMp_sF68, VMp_sF70, VMp_sF71, VMp_sF72, VMp_sF73, VMp_sF74, VMp_sF80, VMp_sF81, VMp_sF82, VMp_sF83, VMp_sF88, VMp_sF92, VMp_sF94, VMp_sF96, VMp_sF97, VMp_sF98, VMp_sF99, VMp_sF100, VMp_sF101, VMp_sF103, VMp_sF104, VMp_sF112, VMp_sF113, VMp_sF118, VMp_sF119, VMp_sF122, VMp_sF123, VMp_sF135, VMp_sF137, VMp_sA1, VMp_sA2, VMp_sA5, VMp_sA20, VMp_sA26, VMp_sA27, VMp_sA34, VMp_sA35, VMp_sA36, VMp_sA37, VMp_sA40, VMp_sA47, VMp_sA48, VMp_sA49, VMp_sA50, VMp_sA52, VMp_sA53, VMp_sA54, VMp_sA55, VMp_sA56, VMp_sA57, VMp_sA58, VMp_sA59, VMp_sA61, VMp_sA62, VMp_sA63, VMp_sA64, VMp_sA69, VMp_sA75, VMp_sA76, VMp_sA77, VMp_sA78, VMp_sA79, VMp_sA84, VMp_sA85, VMp_sA86, VMp_sA87, VMp_sA89, VMp_sA90, VMp_sA91, VMp_sA93, VMp_sA102, VMp_sA105, VMp_sA106, VMp_sA107, VMp_sA108, VMp_sA109, VMp_sA110, VMp_sA111, VMp_sA114, VMp_sA115, VMp_sA116, VMp_sA117, VMp_sA120, VMp_sA121, VMp_sA124, VMp_sA125, VMp_sA126, VMp_sA127, VMp_sA128, VMp_sA129, VMp_sA136, VMp_sA138, VMp_gA0, VMp_gA1, VMp_gA2, VMp_gA3, VMp_gA4, VMp_gA5, VMp_gA6, VMp_gA8, VMp_gA10, VMp_gA11, VMp_gA15, VMp_gA16, VMp_gA17, VMp_gA18, VMp_gA19, VMp_gA20, VMp_gA21, VMp_gA22, VMp_gA23, VMp_gA24, VMp_gA25, VMp_gA26, VMp_gA27, VMp_gA29, VMp_gA30, VMp_gA31, VMp_gA33, VMp_gA34, VMp_gA35, VMp_gA36, VMp_gA37, VMp_sF7, VMp_sF9, KYp_sL, KYp_sF0, KYp_sF3, KYp_sF10, KYp_sF11, KYp_sF12, KYp_sF13, KYp_sF14, KYp_sF16, KYp_sF17, KYp_sF18, KYp_sF19, KYp_sF21, KYp_sF22, KYp_sF23, KYp_sF24, KYp_sF25, KYp_sF28, KYp_sF29, KYp_sF30, KYp_sF31, KYp_sF32, KYp_sF33, KYp_sF38, KYp_sF39, KYp_sF41, KYp_sF42, KYp_sF43, KYp_sF44, KYp_sF45, KYp_sF60, KYp_sF65, KYp_sF66, KYp_sF67, KYp_sF68, KYp_sF70, KYp_sF71, KYp_sF72, KYp_sF73, KYp_sF74, KYp_sF80, KYp_sF81, KYp_sF82, KYp_sF83, KYp_sF88, KYp_sF92, KYp_sF94, KYp_sF96, KYp_sF97, KYp_sF98, KYp_sF99, KYp_sF100, KYp_sF101, KYp_sF103, KYp_sF104, KYp_sF112, KYp_sF113, KYp_sF118, KYp_sF119, KYp_sF122, KYp_sF123, KYp_sF135, KYp_sF137, KYp_sA1, KYp_sA2, KYp_sA5, KYp_sA20, KYp_sA26, KYp_sA27, KYp_sA34, KYp_sA35, KYp_sA36, KYp_sA37, KYp_sA40, KYp_sA46, KYp_sA47, KYp_sA48, KYp_sA49, KYp_sA50, KYp_sA51, KYp_sA52, KYp_sA55, KYp_sA56, KYp_sA57, KYp_sA58, KYp_sA59, KYp_sA61, KYp_sA62, KYp_sA63, KYp_sA64, KYp_sA69, KYp_sA75, KYp_sA76, KYp_sA77, KYp_sA78, KYp_sA79, KYp_sA84, KYp_sA85, KYp_sA86, KYp_sA87, KYp_sA89, KYp_sA90, KYp_sA91, KYp_sA93, KYp_sA102, KYp_sA105, KYp_sA106, KYp_sA107, KYp_sA108, KYp_sA109, KYp_sA110, KYp_sA111, KYp_sA114, KYp_sA115, KYp_sA116, KYp_sA117, KYp_sA120, KYp_sA121, KYp_sA124, KYp_sA125, KYp_sA126, KYp_sA127, KYp_sA128, KYp_sA129, KYp_sA136, KYp_sA138, KYp_gA0, KYp_gA1, KYp_gA2, KYp_gA3, KYp_gA4, KYp_gA5, KYp_gA6, KYp_gA8, KYp_gA10, KYp_gA11, KYp_gA15, KYp_gA16, KYp_gA17, KYp_gA18, KYp_gA19, KYp_gA20, KYp_gA21, KYp_gA22, KYp_gA23, KYp_gA24, KYp_gA25, KYp_gA26, KYp_gA27, KYp_gA29, KYp_gA30, KYp_gA31, KYp_gA33, KYp_gA34, KYp_gA35, KYp_gA36, KYp_gA37, KYp_sF7, KYp_sF9, PPp_sL, PPp_sF0, PPp_sF3, PPp_sF10, PPp_sF11, PPp_sF12, PPp_sF13, PPp_sF14, PPp_sF16, PPp_sF17, PPp_sF18, PPp_sF19, PPp_sF21, PPp_sF22, PPp_sF23, PPp_sF24, PPp_sF25, PPp_sF28, PPp_sF29, PPp_sF30, PPp_sF31, PPp_sF32, PPp_sF33, PPp_sF38, PPp_sF39, PPp_sF41, PPp_sF42, PPp_sF43, PPp_sF44, PPp_sF45, PPp_sF60, PPp_sF65, PPp_sF66, PPp_sF67, PPp_sF68, PPp_sF70, PPp_sF71, PPp_sF72, PPp_sF73, PPp_sF74, PPp_sF80, PPp_sF81, PPp_sF82, PPp_sF83, PPp_sF88, PPp_sF92, PPp_sF94, PPp_sF96, PPp_sF97, PPp_sF98, PPp_sF99, PPp_sF100, PPp_sF101, PPp_sF103, PPp_sF104, PPp_sF112, PPp_sF113, PPp_sF118, PPp_sF119, PPp_sF122, PPp_sF123, PPp_sF135, PPp_sF137, PPp_sA1, PPp_sA2, PPp_sA5, PPp_sA20, PPp_sA26, PPp_sA27, PPp_sA34, PPp_sA35, PPp_sA36, PPp_sA37, PPp_sA40, PPp_sA46, PPp_sA47, PPp_sA48, PPp_sA49, PPp_sA50, PPp_sA51, PPp_sA52, PPp_sA53, PPp_sA54, PPp_sA55, PPp_sA58, PPp_sA59, PPp_sA61, PPp_sA62, PPp_sA63, PPp_sA64, PPp_sA69, PPp_sA75, PPp_sA76, PPp_sA77, PPp_sA78, PPp_sA79, PPp_sA84, PPp_sA85, PPp_sA86, PPp_sA87, PPp_sA89, PPp_sA90, PPp_sA91, PPp_sA93, PPp_sA102, PPp_sA105, PPp_sA106, PPp_sA107, PPp_sA108, PPp_sA109, PPp_sA110, PPp_sA111, PPp_sA114, PPp_sA115, PPp_sA116, PPp_sA117, PPp_sA120, PPp_sA121, PPp_sA124, PPp_sA125, PPp_sA126, PPp_sA127, PPp_sA128, PPp_sA129, PPp_sA136, PPp_sA138, PPp_gA0, PPp_gA1, PPp_gA2, PPp_gA3, PPp_gA4, PPp_gA5, PPp_gA6, PPp_gA8, PPp_gA10, PPp_gA11, PPp_gA15, PPp_gA16, PPp_gA17, PPp_gA18, PPp_gA19, PPp_gA20, PPp_gA21, PPp_gA22, PPp_gA23, PPp_gA24, PPp_gA25, PPp_gA26, PPp_gA27, PPp_gA29, PPp_gA30, PPp_gA31, PPp_gA33, PPp_gA34, PPp_gA35, PPp_gA36, PPp_gA37, PPp_sF7, PPp_sF9, WFp_sL, WFp_sF0, WFp_sF3, WFp_sF10, WFp_sF11, WFp_sF12, WFp_sF13, WFp_sF14, WFp_sF16, WFp_sF17, WFp_sF18, WFp_sF19, WFp_sF21, WFp_sF22, WFp_sF23, WFp_sF24, WFp_sF25, WFp_sF28, WFp_sF29, WFp_sF30, WFp_sF31, WFp_sF32, WFp_sF33, WFp_sF38, WFp_sF39, WFp_sF41, WFp_sF42, WFp_sF43, WFp_sF44, WFp_sF45, WFp_sF60, WFp_sF65, WFp_sF66, WFp_sF67, WFp_sF68, WFp_sF70, WFp_sF71, WFp_sF72, WFp_sF73, WFp_sF74, WFp_sF80, WFp_sF81, WFp_sF82, WFp_sF83, WFp_sF88, WFp_sF92, WFp_sF94, WFp_sF96, WFp_sF97, WFp_sF98, WFp_sF99, WFp_sF100, WFp_sF101, WFp_sF103, WFp_sF104, WFp_sF112, WFp_sF113, WFp_sF118, WFp_sF119, WFp_sF122, WFp_sF123, WFp_sF135, WFp_sF137, WFp_sA1, WFp_sA2, WFp_sA5, WFp_sA20, WFp_sA26, WFp_sA27, WFp_sA34, WFp_sA35, WFp_sA36, WFp_sA37, WFp_sA40, WFp_sA46, WFp_sA47, WFp_sA48, WFp_sA51, WFp_sA52, WFp_sA53, WFp_sA54, WFp_sA55, WFp_sA56, WFp_sA57, WFp_sA58, WFp_sA59, WFp_sA61, WFp_sA62, WFp_sA63, WFp_sA64, WFp_sA69, WFp_sA75, WFp_sA76, WFp_sA77, WFp_sA78, WFp_sA79, WFp_sA84, WFp_sA85, WFp_sA86, WFp_sA87, WFp_sA89, WFp_sA90, WFp_sA91, WFp_sA93, WFp_sA102, WFp_sA105, WFp_sA106, WFp_sA107, WFp_sA108, WFp_sA109, WFp_sA110, WFp_sA111, WFp_sA114, WFp_sA115, WFp_sA116, WFp_sA117, WFp_sA120, WFp_sA121, WFp_sA124, WFp_sA125, WFp_sA126, WFp_sA127, WFp_sA128, WFp_sA129, WFp_sA136, WFp_sA138, WFp_gA0, WFp_gA1, WFp_gA2, WFp_gA3, WFp_gA4, WFp_gA5, WFp_gA6, WFp_gA8, WFp_gA10, WFp_gA11, WFp_gA15, WFp_gA16, WFp_gA17, WFp_gA18, WFp_gA19, WFp_gA20, WFp_gA21, WFp_gA22, WFp_gA23, WFp_gA24, WFp_gA25, WFp_gA26, WFp_gA27, WFp_gA29, WFp_gA30, WFp_gA31, WFp_gA33, WFp_gA34, WFp_gA35, WFp_gA36, WFp_gA37, WFp_sF7, WFp_sF9] at *
  (repeat' (first | with_reducible intro _ | with_reducible apply And.intro))
  all_goals (first | assumption | omega | grind (splits := 20) [rNM_sF0])
set_option maxHeartbeats 400000 in
theorem vX14_end_61m (σ : rS) (x1 : Int) (hwf : rWF σ) (hx1 : rng x1) (hp : pre_X14_end σ x1) : VC_X14_end_61m σ x1 := by
  simp only [VC_X14_end_61m, pre_X14_end, post_X14_end, inv_X14_end_31, inv_X14_end_61, mu_X14_end_31, mu_X14_end_61, rng, rfk, rNMp, rF_sF, rF_sA, rF_sL, rF_sR, rA_sA, rA_sF, rA_sL, rA_sR, rR_sF, rR_sA, rR_sL, rR_sR, reduceIte, and_true, true_and, and_false, false_and, and_self, VMp_sL, VMp_sF0, VMp_sF3, VMp_sF10, VMp_sF11, VMp_sF12, VMp_sF13, VMp_sF14, VMp_sF16, VMp_sF17, VMp_sF18, VMp_sF19, VMp_sF21, VMp_sF22, VMp_sF23, VMp_sF24, VMp_sF25, VMp_sF28, VMp_sF29, VMp_sF30, VMp_sF31, VMp_sF32, VMp_sF33, VMp_sF38, VMp_sF39, VMp_sF41, VMp_sF42, VMp_sF43, VMp_sF44, VMp_sF45, VMp_sF60, VMp_sF65, VMp_sF66, VMp_sF67, VMp_sF68, VMp_sF70, VMp_sF71, VMp_sF72, VMp_sF73, VMp_sF74, VMp_sF80, VMp_sF81, VMp_sF82, VMp_sF83, VMp_sF88, VMp_sF92, VMp_sF94, VMp_sF96, VMp_sF97, VMp_sF98, VMp_sF99, VMp_sF100, VMp_sF101, VMp_sF103, VMp_sF104, VMp_sF112, VMp_sF113, VMp_sF118, VMp_sF119, VMp_sF122, VMp_sF123, VMp_sF135, VMp_sF137, VMp_sA1, VMp_sA2, VMp_sA5, VMp_sA20, VMp_sA26, VMp_sA27, VMp_sA34, VMp_sA35, VMp_sA36, VMp_sA37, VMp_sA40, VMp_sA47, VMp_sA48, VMp_sA49, VMp_sA50, VMp_sA52, VMp_sA53, VMp_sA54, VMp_sA55, VMp_sA56, VMp_sA57, VMp_sA58, VMp_sA59, VMp_sA61, VMp_sA62, VMp_sA63, VMp_sA64, VMp_sA69, VMp_sA75, VMp_sA76, VMp_sA77, VMp_sA78, VMp_sA79, VMp_sA84, VMp_sA85, VMp_sA86, VMp_sA87, VMp_sA89, VMp_sA90, VMp_sA91, VMp_sA93, VMp_sA102, VMp_sA105, VMp_sA106, VMp_sA107, VMp_sA108, VMp_sA109, VMp_sA110, VMp_sA111, VMp_sA114, VMp_sA115, VMp_sA116, VMp_sA117, VMp_sA120, VMp_sA121, VMp_sA124, VMp_sA125, VMp_sA126, VMp_sA127, VMp_sA128, VMp_sA129, VMp_sA136, VMp_sA138, VMp_gA0, VMp_gA1, VMp_gA2, VMp_gA3, VMp_gA4, VMp_gA5, VMp_gA6, VMp_gA8, VMp_gA10, VMp_gA11, VMp_gA15, VMp_gA16, VMp_gA17, VMp_gA18, VMp_gA19, VMp_gA20, VMp_gA21, VMp_gA22, VMp_gA23, VMp_gA24, VMp_gA25, VMp_gA26, VMp_gA27, VMp_gA29, VMp_gA30, VMp_gA31, VMp_gA33, VMp_gA34, VMp_gA35, VMp_gA36, VMp_gA37, VMp_sF7, VMp_sF9, KYp_sL, KYp_sF0, KYp_sF3, KYp_sF10, KYp_sF11, KYp_sF12, KYp_sF13, KYp_sF14, KYp_sF16, KYp_sF17, KYp_sF18, KYp_sF19, KYp_sF21, KYp_sF22, KYp_sF23, KYp_sF24, KYp_sF25, KYp_sF28, KYp_sF29, KYp_sF30, KYp_sF31, KYp_sF32, KYp_sF33, KYp_sF38, KYp_sF39, KYp_sF41, KYp_sF42, KYp_sF43, KYp_sF44, KYp_sF45, KYp_sF60, KYp_sF65, KYp_sF66, KYp_sF67, KYp_sF68, KYp_sF70, KYp_sF71, KYp_sF72, KYp_sF73, KYp_sF74, KYp_sF80, KYp_sF81, KYp_sF82, KYp_sF83, KYp_sF88, KYp_sF92, KYp_sF94, KYp_sF96, KYp_sF97, KYp_sF98, KYp_sF99, KYp_sF100, KYp_sF101, KYp_sF103, KYp_sF104, KYp_sF112, KYp_sF113, KYp_sF118, KYp_sF119, KYp_sF122, KYp_sF123, KYp_sF135, KYp_sF137, KYp_sA1, KYp_sA2, KYp_sA5, KYp_sA20, KYp_sA26, KYp_sA27, KYp_sA34, KYp_sA35, KYp_sA36, KYp_sA37, KYp_sA40, KYp_sA46, KYp_sA47, KYp_sA48, KYp_sA49, KYp_sA50, KYp_sA51, KYp_sA52, KYp_sA55, KYp_sA56, KYp_sA57, KYp_sA58, KYp_sA59, KYp_sA61, KYp_sA62, KYp_sA63, KYp_sA64, KYp_sA69, KYp_sA75, KYp_sA76, KYp_sA77, KYp_sA78, KYp_sA79, KYp_sA84, KYp_sA85, KYp_sA86, KYp_sA87, KYp_sA89, KYp_sA90, KYp_sA91, KYp_sA93, KYp_sA102, KYp_sA105, KYp_sA106, KYp_sA107, KYp_sA108, KYp_sA109, KYp_sA110, KYp_sA111, KYp_sA114, KYp_sA115, KYp_sA116, KYp_sA117, KYp_sA120, KYp_sA121, KYp_sA124, KYp_sA125, KYp_sA126, KYp_sA127, KYp_sA128, KYp_sA129, KYp_sA136, KYp_sA138, KYp_gA0, KYp_gA1, KYp_gA2, KYp_gA3, KYp_gA4, KYp_gA5, KYp_gA6, KYp_gA8, KYp_gA10, KYp_gA11, KYp_gA15, KYp_gA16, KYp_gA17, KYp_gA18, KYp_gA19, KYp_gA20, KYp_gA21, KYp_gA22, KYp_gA23, KYp_gA24, KYp_gA25, KYp_gA26, KYp_gA27, KYp_gA29, KYp_gA30, KYp_gA31, KYp_gA33, KYp_gA34, KYp_gA35, KYp_gA36, KYp_gA37, KYp_sF7, KYp_sF9, PPp_sL, PPp_sF0, PPp_sF3, PPp_sF10, PPp_sF11, PPp_sF12, PPp_sF13, PPp_sF14, PPp_sF16, PPp_sF17, PPp_sF18, PPp_sF19, PPp_sF21, PPp_sF22, PPp_sF23, PPp_sF24, PPp_sF25, PPp_sF28, PPp_sF29, PPp_sF30, PPp_sF31, PPp_sF32, PPp_sF33, PPp_sF38, PPp_sF39, PPp_sF41, PPp_sF42, PPp_sF43, PPp_sF44, PPp_sF45, PPp_sF60, PPp_sF65, PPp_sF66, PPp_sF67, PPp_sF68, PPp_sF70, PPp_sF71, PPp_sF72, PPp_sF73, PPp_sF74, PPp_sF80, PPp_sF81, PPp_sF82, PPp_sF83, PPp_sF88, PPp_sF92, PPp_sF94, PPp_sF96, PPp_sF97, PPp_sF98, PPp_sF99, PPp_sF100, PPp_sF101, PPp_sF103, PPp_sF104, PPp_sF112, PPp_sF113, PPp_sF118, PPp_sF119, PPp_sF122, PPp_sF123, PPp_sF135, PPp_sF137, PPp_sA1, PPp_sA2, PPp_sA5, PPp_sA20, PPp_sA26, PPp_sA27, PPp_sA34, PPp_sA35, PPp_sA36, PPp_sA37, PPp_sA40, PPp_sA46, PPp_sA47, PPp_sA48, PPp_sA49, PPp_sA50, PPp_sA51, PPp_sA52, PPp_sA53, PPp_sA54, PPp_sA55, PPp_sA58, PPp_sA59, PPp_sA61, PPp_sA62, PPp_sA63, PPp_sA64, PPp_sA69, PPp_sA75, PPp_sA76, PPp_sA77, PPp_sA78, PPp_sA79, PPp_sA84, PPp_sA85, PPp_sA86, PPp_sA87, PPp_sA89, PPp_sA90, PPp_sA91, PPp_sA93, PPp_sA102, PPp_sA105, PPp_sA106, PPp_sA107, PPp_sA108, PPp_sA109, PPp_sA110, PPp_sA111, PPp_sA114, PPp_sA115, PPp_sA116, PPp_sA117, PPp_sA120, PPp_sA121, PPp_sA124, PPp_sA125, PPp_sA126, PPp_sA127, PPp_sA128, PPp_sA129, PPp_sA136, PPp_sA138, PPp_gA0, PPp_gA1, PPp_gA2, PPp_gA3, PPp_gA4, PPp_gA5, PPp_gA6, PPp_gA8, PPp_gA10, PPp_gA11, PPp_gA15, PPp_gA16, PPp_gA17, PPp_gA18, PPp_gA19, PPp_gA20, PPp_gA21, PPp_gA22, PPp_gA23, PPp_gA24, PPp_gA25, PPp_gA26, PPp_gA27, PPp_gA29, PPp_gA30, PPp_gA31, PPp_gA33, PPp_gA34, PPp_gA35, PPp_gA36, PPp_gA37, PPp_sF7, PPp_sF9, WFp_sL, WFp_sF0, WFp_sF3, WFp_sF10, WFp_sF11, WFp_sF12, WFp_sF13, WFp_sF14, WFp_sF16, WFp_sF17, WFp_sF18, WFp_sF19, WFp_sF21, WFp_sF22, WFp_sF23, WFp_sF24, WFp_sF25, WFp_sF28, WFp_sF29, WFp_sF30, WFp_sF31, WFp_sF32, WFp_sF33, WFp_sF38, WFp_sF39, WFp_sF41, WFp_sF42, WFp_sF43, WFp_sF44, WFp_sF45, WFp_sF60, WFp_sF65, WFp_sF66, WFp_sF67, WFp_sF68, WFp_sF70, WFp_sF71, WFp_sF72, WFp_sF73, WFp_sF74, WFp_sF80, WFp_sF81, WFp_sF82, WFp_sF83, WFp_sF88, WFp_sF92, WFp_sF94, WFp_sF96, WFp_sF97, WFp_sF98, WFp_sF99, WFp_sF100, WFp_sF101, WFp_sF103, WFp_sF104, WFp_sF112, WFp_sF113, WFp_sF118, WFp_sF119, WFp_sF122, WFp_sF123, WFp_sF135, WFp_sF137, WFp_sA1, WFp_sA2, WFp_sA5, WFp_sA20, WFp_sA26, WFp_sA27, WFp_sA34, WFp_sA35, WFp_sA36, WFp_sA37, WFp_sA40, WFp_sA46, WFp_sA47, WFp_sA48, WFp_sA51, WFp_sA52, WFp_sA53, WFp_sA54, WFp_sA55, WFp_sA56, WFp_sA57, WFp_sA58, WFp_sA59, WFp_sA61, WFp_sA62, WFp_sA63, WFp_sA64, WFp_sA69, WFp_sA75, WFp_sA76, WFp_sA77, WFp_sA78, WFp_sA79, WFp_sA84, WFp_sA85, WFp_sA86, WFp_sA87, WFp_sA89, WFp_sA90, WFp_sA91, WFp_sA93, WFp_sA102, WFp_sA105, WFp_sA106, WFp_sA107, WFp_sA108, WFp_sA109, WFp_sA110, WFp_sA111, WFp_sA114, WFp_sA115, WFp_sA116, WFp_sA117, WFp_sA120, WFp_sA121, WFp_sA124, WFp_sA125, WFp_sA126, WFp_sA127, WFp_sA128, WFp_sA129, WFp_sA136, WFp_sA138, WFp_gA0, WFp_gA1, WFp_gA2, WFp_gA3, WFp_gA4, WFp_gA5, WFp_gA6, WFp_gA8, WFp_gA10, WFp_gA11, WFp_gA15, WFp_gA16, WFp_gA17, WFp_gA18, WFp_gA19, WFp_gA20, WFp_gA21, WFp_gA22, WFp_gA23, WFp_gA24, WFp_gA25, WFp_gA26, WFp_gA27, WFp_gA29, WFp_gA30, WFp_gA31, WFp_gA33, WFp_gA34, WFp_gA35, WFp_gA36, WFp_gA37, WFp_sF7, WFp_sF9] at *
  (repeat' (first | with_reducible intro _ | with_reducible apply And.intro))
  all_goals (first | assumption | omega | grind (splits := 20) [rNM_sF0])
set_option maxHeartbeats 400000 in
theorem vX14_end_31 (σ : rS) (x1 : Int) (hwf : rWF σ) (hx1 : rng x1) (hp : pre_X14_end σ x1) : VC_X14_end_31 σ x1 (post_X14_end σ x1) := by
  simp only [VC_X14_end_31, pre_X14_end, post_X14_end, inv_X14_end_31, inv_X14_end_61, mu_X14_end_31, mu_X14_end_61, rng, rfk, rNMp, rF_sF, rF_sA, rF_sL, rF_sR, rA_sA, rA_sF, rA_sL, rA_sR, rR_sF, rR_sA, rR_sL, rR_sR, reduceIte, and_true, true_and, and_false, false_and, and_self, VMp_sL, VMp_sF0, VMp_sF3, VMp_sF10, VMp_sF11, VMp_sF12, VMp_sF13, VMp_sF14, VMp_sF16, VMp_sF17, VMp_sF18, VMp_sF19, VMp_sF21, VMp_sF22, VMp_sF23, VMp_sF24, VMp_sF25, VMp_sF28, VMp_sF29, VMp_sF30, VMp_sF31, VMp_sF32, VMp_sF33, VMp_sF38, VMp_sF39, VMp_sF41, VMp_sF42, VMp_sF43, VMp_sF44, VMp_sF45, VMp_sF60, VMp_sF65, VMp_sF66, VMp_sF67, VMp_sF68, VMp_sF70, VMp_sF71, VMp_sF72, VMp_sF73, VMp_sF74, VMp_sF80, VMp_sF81, VMp_sF82, VMp_sF83, VMp_sF88, VMp_sF92, VMp_sF94, VMp_sF96, VMp_sF97, VMp_sF98, VMp_sF99, VMp_sF100, VMp_sF101, VMp_sF103, VMp_sF104, VMp_sF112, VMp_sF113, VMp_sF118, VMp_sF119, VMp_sF122, VMp_sF123, VMp_sF135, VMp_sF137, VMp_sA1, VMp_sA2, VMp_sA5, VMp_sA20, VMp_sA26, VMp_sA27, VMp_sA34, VMp_sA35, VMp_sA36, VMp_sA37, VMp_sA40, VMp_sA47, VMp_sA48, VMp_sA49, VMp_sA50, VMp_sA52, VMp_sA53, VMp_sA54, VMp_sA55, VMp_sA56, VMp_sA57, VMp_sA58, VMp_sA59, VMp_sA61, VMp_sA62, VMp_sA63, VMp_sA64, VMp_sA69, VMp_sA75, VMp_sA76, VMp_sA77, VMp_sA78, VMp_sA79, VMp_sA84, VMp_sA85, VMp_sA86, VMp_sA87, VMp_sA89, VMp_sA90, VMp_sA91, VMp_sA93, VMp_sA102, VMp_sA105, VMp_sA106, VMp_sA107, VMp_sA108, VMp_sA109, VMp_sA110, VMp_sA111, VMp_sA114, VMp_sA115, VMp_sA116, VMp_sA117, VMp_sA120, VMp_sA121, VMp_sA124, VMp_sA125, VMp_sA126, VMp_sA127, VMp_sA128, VMp_sA129, VMp_sA136, VMp_sA138, VMp_gA0, VMp_gA1, VMp_gA2, VMp_gA3, VMp_gA4, VMp_gA5, VMp_gA6, VMp_gA8, VMp_gA10, VMp_gA11, VMp_gA15, VMp_gA16, VMp_gA17, VMp_gA18, VMp_gA19, VMp_gA20, VMp_gA21, VMp_gA22, VMp_gA23, VMp_gA24, VMp_gA25, VMp_gA26, VMp_gA27, VMp_gA29, VMp_gA30, VMp_gA31, VMp_gA33, VMp_gA34, VMp_gA35, VMp_gA36, VMp_gA37, VMp_sF7, VMp_sF9, KYp_sL, KYp_sF0, KYp_sF3, KYp_sF10, KYp_sF11, KYp_sF12, KYp_sF13, KYp_sF14, KYp_sF16, KYp_sF17, KYp_sF18, KYp_sF19, KYp_sF21, KYp_sF22, KYp_sF23, KYp_sF24, KYp_sF25, KYp_sF28, KYp_sF29, KYp_sF30, KYp_sF31, KYp_sF32, KYp_sF33, KYp_sF38, KYp_sF39, KYp_sF41, KYp_sF42, KYp_sF43, KYp_sF44, KYp_sF45, KYp_sF60, KYp_sF65, KYp_sF66, KYp_sF67, KYp_sF68, KYp_sF70, KYp_sF71, KYp_sF72, KYp_sF73, KYp_sF74, KYp_sF80, KYp_sF81, KYp_sF82, KYp_sF83, KYp_sF88, KYp_sF92, KYp_sF94, KYp_sF96, KYp_sF97, KYp_sF98, KYp_sF99, KYp_sF100, KYp_sF101, KYp_sF103, KYp_sF104, KYp_sF112, KYp_sF113, KYp_sF118, KYp_sF119, KYp_sF122, KYp_sF123, KYp_sF135, KYp_sF137, KYp_sA1, KYp_sA2, KYp_sA5, KYp_sA20, KYp_sA26, KYp_sA27, KYp_sA34, KYp_sA35, KYp_sA36, KYp_sA37, KYp_sA40, KYp_sA46, KYp_sA47, KYp_sA48, KYp_sA49, KYp_sA50, KYp_sA51, KYp_sA52, KYp_sA55, KYp_sA56, KYp_sA57, KYp_sA58, KYp_sA59, KYp_sA61, KYp_sA62, KYp_sA63, KYp_sA64, KYp_sA69, KYp_sA75, KYp_sA76, KYp_sA77, KYp_sA78, KYp_sA79, KYp_sA84, KYp_sA85, KYp_sA86, KYp_sA87, KYp_sA89, KYp_sA90, KYp_sA91, KYp_sA93, KYp_sA102, KYp_sA105, KYp_sA106, KYp_sA107, KYp_sA108, KYp_sA109, KYp_sA110, KYp_sA111, KYp_sA114, KYp_sA115, KYp_sA116, KYp_sA117, KYp_sA120, KYp_sA121, KYp_sA124, KYp_sA125, KYp_sA126, KYp_sA127, KYp_sA128, KYp_sA129, KYp_sA136, KYp_sA138, KYp_gA0, KYp_gA1, KYp_gA2, KYp_gA3, KYp_gA4, KYp_gA5, KYp_gA6, KYp_gA8, KYp_gA10, KYp_gA11, KYp_gA15, KYp_gA16, KYp_gA17, KYp_gA18, KYp_gA19, KYp_gA20, KYp_gA21, KYp_gA22, KYp_gA23, KYp_gA24, KYp_gA25, KYp_gA26, KYp_gA27, KYp_gA29, KYp_gA30, KYp_gA31, KYp_gA33, KYp_gA34, KYp_gA35, KYp_gA36, KYp_gA37, KYp_sF7, KYp_sF9, PPp_sL, PPp_sF0, PPp_sF3, PPp_sF10, PPp_sF11, PPp_sF12, PPp_sF13, PPp_sF14, PPp_sF16, PPp_sF17, PPp_sF18, PPp_sF19, PPp_sF21, PPp_sF22, PPp_sF23, PPp_sF24, PPp_sF25, PPp_sF28, PPp_sF29, PPp_sF30, PPp_sF31, PPp_sF32, PPp_sF33, PPp_sF38, PPp_sF39, PPp_sF41, PPp_sF42, PPp_sF43, PPp_sF44, PPp_sF45, PPp_sF60, PPp_sF65, PPp_sF66, PPp_sF67, PPp_sF68, PPp_sF70, PPp_sF71, PPp_sF72, PPp_sF73, PPp_sF74, PPp_sF80, PPp_sF81, PPp_sF82, PPp_sF83, PPp_sF88, PPp_sF92, PPp_sF94, PPp_sF96, PPp_sF97, PPp_sF98, PPp_sF99, PPp_sF100, PPp_sF101, PPp_sF103, PPp_sF104, PPp_sF112, PPp_sF113, PPp_sF118, PPp_sF119, PPp_sF122, PPp_sF123, PPp_sF135, PPp_sF137, PPp_sA1, PPp_sA2, PPp_sA5, PPp_sA20, PPp_sA26, PPp_sA27, PPp_sA34, PPp_sA35, PPp_sA36, PPp_sA37, PPp_sA40, PPp_sA46, PPp_sA47, PPp_sA48, PPp_sA49, PPp_sA50, PPp_sA51, PPp_sA52, PPp_sA53, PPp_sA54, PPp_sA55, PPp_sA58, PPp_sA59, PPp_sA61, PPp_sA62, PPp_sA63, PPp_sA64, PPp_sA69, PPp_sA75, PPp_sA76, PPp_sA77, PPp_sA78, PPp_sA79, PPp_sA84, PPp_sA85, PPp_sA86, PPp_sA87, PPp_sA89, PPp_sA90, PPp_sA91, PPp_sA93, PPp_sA102, PPp_sA105, PPp_sA106, PPp_sA107, PPp_sA108, PPp_sA109, PPp_sA110, PPp_sA111, PPp_sA114, PPp_sA115, PPp_sA116, PPp_sA117, PPp_sA120, PPp_sA121, PPp_sA124, PPp_sA125, PPp_sA126, PPp_sA127, PPp_sA128, PPp_sA129, PPp_sA136, PPp_sA138, PPp_gA0, PPp_gA1, PPp_gA2, PPp_gA3, PPp_gA4, PPp_gA5, PPp_gA6, PPp_gA8, PPp_gA10, PPp_gA11, PPp_gA15, PPp_gA16, PPp_gA17, PPp_gA18, PPp_gA19, PPp_gA20, PPp_gA21, PPp_gA22, PPp_gA23, PPp_gA24, PPp_gA25, PPp_gA26, PPp_gA27, PPp_gA29, PPp_gA30, PPp_gA31, PPp_gA33, PPp_gA34, PPp_gA35, PPp_gA36, PPp_gA37, PPp_sF7, PPp_sF9, WFp_sL, WFp_sF0, WFp_sF3, WFp_sF10, WFp_sF11, WFp_sF12, WFp_sF13, WFp_sF14, WFp_sF16, WFp_sF17, WFp_sF18, WFp_sF19, WFp_sF21, WFp_sF22, WFp_sF23, WFp_sF24, WFp_sF25, WFp_sF28, WFp_sF29, WFp_sF30, WFp_sF31, WFp_sF32, WFp_sF33, WFp_sF38, WFp_sF39, WFp_sF41, WFp_sF42, WFp_sF43, WFp_sF44, WFp_sF45, WFp_sF60, WFp_sF65, WFp_sF66, WFp_sF67, WFp_sF68, WFp_sF70, WFp_sF71, WFp_sF72, WFp_sF73, WFp_sF74, WFp_sF80, WFp_sF81, WFp_sF82, WFp_sF83, WFp_sF88, WFp_sF92, WFp_sF94, WFp_sF96, WFp_sF97, WFp_sF98, WFp_sF99, WFp_sF100, WFp_sF101, WFp_sF103, WFp_sF104, WFp_sF112, WFp_sF113, WFp_sF118, WFp_sF119, WFp_sF122, WFp_sF123, WFp_sF135, WFp_sF137, WFp_sA1, WFp_sA2, WFp_sA5, WFp_sA20, WFp_sA26, WFp_sA27, WFp_sA34, WFp_sA35, WFp_sA36, WFp_sA37, WFp_sA40, WFp_sA46, WFp_sA47, WFp_sA48, WFp_sA51, WFp_sA52, WFp_sA53, WFp_sA54, WFp_sA55, WFp_sA56, WFp_sA57, WFp_sA58, WFp_sA59, WFp_sA61, WFp_sA62, WFp_sA63, WFp_sA64, WFp_sA69, WFp_sA75, WFp_sA76, WFp_sA77, WFp_sA78, WFp_sA79, WFp_sA84, WFp_sA85, WFp_sA86, WFp_sA87, WFp_sA89, WFp_sA90, WFp_sA91, WFp_sA93, WFp_sA102, WFp_sA105, WFp_sA106, WFp_sA107, WFp_sA108, WFp_sA109, WFp_sA110, WFp_sA111, WFp_sA114, WFp_sA115, WFp_sA116, WFp_sA117, WFp_sA120, WFp_sA121, WFp_sA124, WFp_sA125, WFp_sA126, WFp_sA127, WFp_sA128, WFp_sA129, WFp_sA136, WFp_sA138, WFp_gA0, WFp_gA1, WFp_gA2, WFp_gA3, WFp_gA4, WFp_gA5, WFp_gA6, WFp_gA8, WFp_gA10, WFp_gA11, WFp_gA15, WFp_gA16, WFp_gA17, WFp_gA18, WFp_gA19, WFp_gA20, WFp_gA21, WFp_gA22, WFp_gA23, WFp_gA24, WFp_gA25, WFp_gA26, WFp_gA27, WFp_gA29, WFp_gA30, WFp_gA31, WFp_gA33, WFp_gA34, WFp_gA35, WFp_gA36, WFp_gA37, WFp_sF7, WFp_sF9] at *
  (repeat' (first | with_reducible intro _ | with_reducible apply And.intro))
  all_goals (first | assumption | omega | grind (splits := 20) [rNM_sF0])
set_option maxHeartbeats 400000 in
theorem vX14_end_31m (σ : rS) (x1 : Int) (hwf : rWF σ) (hx1 : rng x1) (hp : pre_X14_end σ x1) : VC_X14_end_31m σ x1 := by
  simp only [VC_X14_end_31m, pre_X14_end, post_X14_end, inv_X14_end_31, inv_X14_end_61, mu_X14_end_31, mu_X14_end_61, rng, rfk, rNMp, rF_sF, rF_sA, rF_sL, rF_sR, rA_sA, rA_sF, rA_sL, rA_sR, rR_sF, rR_sA, rR_sL, rR_sR, reduceIte, and_true, true_and, and_false, false_and, and_self, VMp_sL, VMp_sF0, VMp_sF3, VMp_sF10, VMp_sF11, VMp_sF12, VMp_sF13, VMp_sF14, VMp_sF16, VMp_sF17, VMp_sF18, VMp_sF19, VMp_sF21, VMp_sF22, VMp_sF23, VMp_sF24, VMp_sF25, VMp_sF28, VMp_sF29, VMp_sF30, VMp_sF31, VMp_sF32, VMp_sF33, VMp_sF38, VMp_sF39, VMp_sF41, VMp_sF42, VMp_sF43, VMp_sF44, VMp_sF45, VMp_sF60, VMp_sF65, VMp_sF66, VMp_sF67, VMp_sF68, VMp_sF70, VMp_sF71, VMp_sF72, VMp_sF73, VMp_sF74, VMp_sF80, VMp_sF81, VMp_sF82, VMp_sF83, VMp_sF88, VMp_sF92, VMp_sF94, VMp_sF96, VMp_sF97, VMp_sF98, VMp_sF99, VMp_sF100, VMp_sF101, VMp_sF103, VMp_sF104, VMp_sF112, VMp_sF113, VMp_sF118, VMp_sF119, VMp_sF122, VMp_sF123, VMp_sF135, VMp_sF137, VMp_sA1, VMp_sA2, VMp_sA5, VMp_sA20, VMp_sA26, VMp_sA27, VMp_sA34, VMp_sA35, VMp_sA36, VMp_sA37, VMp_sA40, VMp_sA47, VMp_sA48, VMp_sA49, VMp_sA50, VMp_sA52, VMp_sA53, VMp_sA54, VMp_sA55, VMp_sA56, VMp_sA57, VMp_sA58, VMp_sA59, VMp_sA61, VMp_sA62, VMp_sA63, VMp_sA64, VMp_sA69, VMp_sA75, VMp_sA76, VMp_sA77, VMp_sA78, VMp_sA79, VMp_sA84, VMp_sA85, VMp_sA86, VMp_sA87, VMp_sA89, VMp_sA90, VMp_sA91, VMp_sA93, VMp_sA102, VMp_sA105, VMp_sA106, VMp_sA107, VMp_sA108, VMp_sA109, VMp_sA110, VMp_sA111, VMp_sA114, VMp_sA115, VMp_sA116, VMp_sA117, VMp_sA120, VMp_sA121, VMp_sA124, VMp_sA125, VMp_sA126, VMp_sA127, VMp_sA128, VMp_sA129, VMp_sA136, VMp_sA138, VMp_gA0, VMp_gA1, VMp_gA2, VMp_gA3, VMp_gA4, VMp_gA5, VMp_gA6, VMp_gA8, VMp_gA10, VMp_gA11, VMp_gA15, VMp_gA16, VMp_gA17, VMp_gA18, VMp_gA19, VMp_gA20, VMp_gA21, VMp_gA22, VMp_gA23, VMp_gA24, VMp_gA25, VMp_gA26, VMp_gA27, VMp_gA29, VMp_gA30, VMp_gA31, VMp_gA33, VMp_gA34, VMp_gA35, VMp_gA36, VMp_gA37, VMp_sF7, VMp_sF9, KYp_sL, KYp_sF0, KYp_sF3, KYp_sF10, KYp_sF11, KYp_sF12, KYp_sF13, KYp_sF14, KYp_sF16, KYp_sF17, KYp_sF18, KYp_sF19, KYp_sF21, KYp_sF22, KYp_sF23, KYp_sF24, KYp_sF25, KYp_sF28, KYp_sF29, KYp_sF30, KYp_sF31, KYp_sF32, KYp_sF33, KYp_sF38, KYp_sF39, KYp_sF41, KYp_sF42, KYp_sF43, KYp_sF44, KYp_sF45, KYp_sF60, KYp_sF65, KYp_sF66, KYp_sF67, KYp_sF68, KYp_sF70, KYp_sF71, KYp_sF72, KYp_sF73, KYp_sF74, KYp_sF80, KYp_sF81, KYp_sF82, KYp_sF83, KYp_sF88, KYp_sF92, KYp_sF94, KYp_sF96, KYp_sF97, KYp_sF98, KYp_sF99, KYp_sF100, KYp_sF101, KYp_sF103, KYp_sF104, KYp_sF112, KYp_sF113, KYp_sF118, KYp_sF119, KYp_sF122, KYp_sF123, KYp_sF135, KYp_sF137, KYp_sA1, KYp_sA2, KYp_sA5, KYp_sA20, KYp_sA26, KYp_sA27, KYp_sA34, KYp_sA35, KYp_sA36, KYp_sA37, KYp_sA40, KYp_sA46, KYp_sA47, KYp_sA48, KYp_sA49, KYp_sA50, KYp_sA51, KYp_sA52, KYp_sA55, KYp_sA56, KYp_sA57, KYp_sA58, KYp_sA59, KYp_sA61, KYp_sA62, KYp_sA63, KYp_sA64, KYp_sA69, KYp_sA75, KYp_sA76, KYp_sA77, KYp_sA78, KYp_sA79, KYp_sA84, KYp_sA85, KYp_sA86, KYp_sA87, KYp_sA89, KYp_sA90, KYp_sA91, KYp_sA93, KYp_sA102, KYp_sA105, KYp_sA106, KYp_sA107, KYp_sA108, KYp_sA109, KYp_sA110, KYp_sA111, KYp_sA114, KYp_sA115, KYp_sA116, KYp_sA117, KYp_sA120, KYp_sA121, KYp_sA124, KYp_sA125, KYp_sA126, KYp_sA127, KYp_sA128, KYp_sA129, KYp_sA136, KYp_sA138, KYp_gA0, KYp_gA1, KYp_gA2, KYp_gA3, KYp_gA4, KYp_gA5, KYp_gA6, KYp_gA8, KYp_gA10, KYp_gA11, KYp_gA15, KYp_gA16, KYp_gA17, KYp_gA18, KYp_gA19, KYp_gA20, KYp_gA21, KYp_gA22, KYp_gA23, KYp_gA24, KYp_gA25, KYp_gA26, KYp_gA27, KYp_gA29, KYp_gA30, KYp_gA31, KYp_gA33, KYp_gA34, KYp_gA35, KYp_gA36, KYp_gA37, KYp_sF7, KYp_sF9, PPp_sL, PPp_sF0, PPp_sF3, PPp_sF10, PPp_sF11, PPp_sF12, PPp_sF13, PPp_sF14, PPp_sF16, PPp_sF17, PPp_sF18, PPp_sF19, PPp_sF21, PPp_sF22, PPp_sF23, PPp_sF24, PPp_sF25, PPp_sF28, PPp_sF29, PPp_sF30, PPp_sF31, PPp_sF32, PPp_sF33, PPp_sF38, PPp_sF39, PPp_sF41, PPp_sF42, PPp_sF43, PPp_sF44, PPp_sF45, PPp_sF60, PPp_sF65, PPp_sF66, PPp_sF67, PPp_sF68, PPp_sF70, PPp_sF71, PPp_sF72, PPp_sF73, PPp_sF74, PPp_sF80, PPp_sF81, PPp_sF82, PPp_sF83, PPp_sF88, PPp_sF92, PPp_sF94, PPp_sF96, PPp_sF97, PPp_sF98, PPp_sF99, PPp_sF100, PPp_sF101, PPp_sF103, PPp_sF104, PPp_sF112, PPp_sF113, PPp_sF118, PPp_sF119, PPp_sF122, PPp_sF123, PPp_sF135, PPp_sF137, PPp_sA1, PPp_sA2, PPp_sA5, PPp_sA20, PPp_sA26, PPp_sA27, PPp_sA34, PPp_sA35, PPp_sA36, PPp_sA37, PPp_sA40, PPp_sA46, PPp_sA47, PPp_sA48, PPp_sA49, PPp_sA50, PPp_sA51, PPp_sA52, PPp_sA53, PPp_sA54, PPp_sA55, PPp_sA58, PPp_sA59, PPp_sA61, PPp_sA62, PPp_sA63, PPp_sA64, PPp_sA69, PPp_sA75, PPp_sA76, PPp_sA77, PPp_sA78, PPp_sA79, PPp_sA84, PPp_sA85, PPp_sA86, PPp_sA87, PPp_sA89, PPp_sA90, PPp_sA91, PPp_sA93, PPp_sA102, PPp_sA105, PPp_sA106, PPp_sA107, PPp_sA108, PPp_sA109, PPp_sA110, PPp_sA111, PPp_sA114, PPp_sA115, PPp_sA116, PPp_sA117, PPp_sA120, PPp_sA121, PPp_sA124, PPp_sA125, PPp_sA126, PPp_sA127, PPp_sA128, PPp_sA129, PPp_sA136, PPp_sA138, PPp_gA0, PPp_gA1, PPp_gA2, PPp_gA3, PPp_gA4, PPp_gA5, PPp_gA6, PPp_gA8, PPp_gA10, PPp_gA11, PPp_gA15, PPp_gA16, PPp_gA17, PPp_gA18, PPp_gA19, PPp_gA20, PPp_gA21, PPp_gA22, PPp_gA23, PPp_gA24, PPp_gA25, PPp_gA26, PPp_gA27, PPp_gA29, PPp_gA30, PPp_gA31, PPp_gA33, PPp_gA34, PPp_gA35, PPp_gA36, PPp_gA37, PPp_sF7, PPp_sF9, WFp_sL, WFp_sF0, WFp_sF3, WFp_sF10, WFp_sF11, WFp_sF12, WFp_sF13, WFp_sF14, WFp_sF16, WFp_sF17, WFp_sF18, WFp_sF19, WFp_sF21, WFp_sF22, WFp_sF23, WFp_sF24, WFp_sF25, WFp_sF28, WFp_sF29, WFp_sF30, WFp_sF31, WFp_sF32, WFp_sF33, WFp_sF38, WFp_sF39, WFp_sF41, WFp_sF42, WFp_sF43, WFp_sF44, WFp_sF45, WFp_sF60, WFp_sF65, WFp_sF66, WFp_sF67, WFp_sF68, WFp_sF70, WFp_sF71, WFp_sF72, WFp_sF73, WFp_sF74, WFp_sF80, WFp_sF81, WFp_sF82, WFp_sF83, WFp_sF88, WFp_sF92, WFp_sF94, WFp_sF96, WFp_sF97, WFp_sF98, WFp_sF99, WFp_sF100, WFp_sF101, WFp_sF103, WFp_sF104, WFp_sF112, WFp_sF113, WFp_sF118, WFp_sF119, WFp_sF122, WFp_sF123, WFp_sF135, WFp_sF137, WFp_sA1, WFp_sA2, WFp_sA5, WFp_sA20, WFp_sA26, WFp_sA27, WFp_sA34, WFp_sA35, WFp_sA36, WFp_sA37, WFp_sA40, WFp_sA46, WFp_sA47, WFp_sA48, WFp_sA51, WFp_sA52, WFp_sA53, WFp_sA54, WFp_sA55, WFp_sA56, WFp_sA57, WFp_sA58, WFp_sA59, WFp_sA61, WFp_sA62, WFp_sA63, WFp_sA64, WFp_sA69, WFp_sA75, WFp_sA76, WFp_sA77, WFp_sA78, WFp_sA79, WFp_sA84, WFp_sA85, WFp_sA86, WFp_sA87, WFp_sA89, WFp_sA90, WFp_sA91, WFp_sA93, WFp_sA102, WFp_sA105, WFp_sA106, WFp_sA107, WFp_sA108, WFp_sA109, WFp_sA110, WFp_sA111, WFp_sA114, WFp_sA115, WFp_sA116, WFp_sA117, WFp_sA120, WFp_sA121, WFp_sA124, WFp_sA125, WFp_sA126, WFp_sA127, WFp_sA128, WFp_sA129, WFp_sA136, WFp_sA138, WFp_gA0, WFp_gA1, WFp_gA2, WFp_gA3, WFp_gA4, WFp_gA5, WFp_gA6, WFp_gA8, WFp_gA10, WFp_gA11, WFp_gA15, WFp_gA16, WFp_gA17, WFp_gA18, WFp_gA19, WFp_gA20, WFp_gA21, WFp_gA22, WFp_gA23, WFp_gA24, WFp_gA25, WFp_gA26, WFp_gA27, WFp_gA29, WFp_gA30, WFp_gA31, WFp_gA33, WFp_gA34, WFp_gA35, WFp_gA36, WFp_gA37, WFp_sF7, WFp_sF9] at *
  (repeat' (first | with_reducible intro _ | with_reducible apply And.intro))
  all_goals (first | assumption | omega | grind (splits := 20) [rNM_sF0])
theorem wX14_end (l : Launch) (G : zG) (κ : Nat → Nat) (σ : rS) (x1 : Int) (hwf : rWF σ) (hx1 : rng x1) (Q : Int → rS → Prop) (h : VC_X14_end σ x1 Q) (h_61 : VC_X14_end_61 σ x1 Q) (h_61m : VC_X14_end_61m σ x1) (h_31 : VC_X14_end_31 σ x1 Q) (h_31m : VC_X14_end_31m σ x1) : rMi l G κ yX14_end cX14_end 3 .int 1 0 [.ref (κ 0), iv x1] σ (fun x s => rKeep 0x9 0 0x6 0 0 σ s ∧ Q x s) := by
  refine zMi.intro (by decide +kernel) (Nat.le_of_ble_eq_true rfl) (fun X hC hR => ?_)
  refine z_aload_n hC (pc := 0) 0 dX14_end_0 rfl rfl ?_
  refine z_iconst hC (pc := 1) (v := Int32.ofInt 0) dX14_end_1 (by decide) ?_
  refine y_putI hC (pc := 2) zf14 rOb_0 0 (x := 0) dX14_end_2 zw2468 (Or.inl rfl) rfl rfl (kk := ?_)
  have W10 := hwf.sF (q := 0) (f := 0) (x := 0) (r_lit rfl)
  refine z_iload_n hC (pc := 5) 1 dX14_end_5 rfl rfl ?_
  obtain ⟨hT, hF⟩ := h
  refine y_if_lt hC (pc := 6) 27 hx1 dX14_end_6 (by decide) (fun c => ?_) (fun c => ?_)
  · have h := hT c
    refine z_iconst hC (pc := 27) (v := Int32.ofInt (-1)) dX14_end_27 (by decide) ?_
    exact y_reti hR dX14_end_28 rfl (r_lit rfl) W10 (Nat.le_of_ble_eq_true rfl) (Nat.le_of_ble_eq_true rfl) ⟨(rKeep.tr rKeep.rf (rKeep.sF0 (f := 0)) rfl rfl rfl rfl rfl), h⟩
  · have h := hF c
    refine z_iload_n hC (pc := 9) 1 dX14_end_9 rfl rfl ?_
    refine z_bipush hC (pc := 10) (v := Int32.ofInt 20) dX14_end_10 (by decide) ?_
    obtain ⟨hT, hF⟩ := h
    refine y_icmp_gt hC (pc := 12) 27 hx1 (r_lit rfl) dX14_end_12 (by decide) (fun c => ?_) (fun c => ?_)
    · have h := hT c
      refine z_iconst hC (pc := 27) (v := Int32.ofInt (-1)) dX14_end_27 (by decide) ?_
      exact y_reti hR dX14_end_28 rfl (r_lit rfl) W10 (Nat.le_of_ble_eq_true rfl) (Nat.le_of_ble_eq_true rfl) ⟨(rKeep.tr rKeep.rf (rKeep.sF0 (f := 0)) rfl rfl rfl rfl rfl), h⟩
    · have h := hF c
      refine z_aload_n hC (pc := 15) 0 dX14_end_15 rfl rfl ?_
      refine y_get hC (pc := 16) zf14 rOb_0 3 (v := iv (rF σ 0 3)) dX14_end_16 zw2471 (rv_i (Or.inl rfl) ((F_sF_ne (by decide)).trans rfl)) (kk := ?_)
      have h := h (hwf.f _ _)
      refine z_iload_n hC (pc := 19) 1 dX14_end_19 rfl rfl ?_
      refine y_iadd hC (pc := 20) (v := ((rF σ 0 3) + x1)) dX14_end_20 rfl ?_
      refine z_sipush hC (pc := 21) (v := Int32.ofInt 4000) dX14_end_21 (by decide) ?_
      obtain ⟨r11, h⟩ := h
      obtain ⟨hT, hF⟩ := h
      refine y_icmp_le hC (pc := 24) 29 r11 (r_lit rfl) dX14_end_24 (by decide) (fun c => ?_) (fun c => ?_)
      · have h := hT c
        refine z_iconst hC (pc := 29) (v := Int32.ofInt 0) dX14_end_29 (by decide) ?_
        refine z_istore_n hC (pc := 30) (lv' := [(2, iv 0), (0, .ref (κ 0)), (1, iv x1)]) dX14_end_30 rfl (by decide) rfl ?_
        have j31 : ∀ (d31 : Nat), ∀ (s12 : rS) (y13 : Int), rWF s12 → rng y13 → rKeep 0x9 0 0x6 0 0 σ s12 → inv_X14_end_31 σ x1 s12 y13 → (mu_X14_end_31 σ x1 s12 y13) ≤ d31 → zS X G 3 (rW G κ s12) [(0, .ref (κ 0)), (1, iv x1), (2, iv y13)] 0 0 31 [] := by
          intro d31
          induction d31 with
          | zero =>
            intro s12 y13 Ws12 hy13 kJ hI hmu
            exact absurd hmu (by have := h_31m  s12 y13 Ws12 hy13 (VMp.keep kJ rfl rfl) (KYp.keep kJ rfl rfl) (PPp.keep kJ rfl rfl) (WFp.keep kJ rfl rfl) (kJ.F rfl) (kJ.F rfl) (kJ.F rfl) (kJ.F rfl) hI; omega)
          | succ d31 ih31 =>
            intro s12 y13 Ws12 hy13 kJ hI hmu31
            have h := h_31  s12 y13 Ws12 hy13 (VMp.keep kJ rfl rfl) (KYp.keep kJ rfl rfl) (PPp.keep kJ rfl rfl) (WFp.keep kJ rfl rfl) (kJ.F rfl) (kJ.F rfl) (kJ.F rfl) (kJ.F rfl) hI
            refine z_iload_n hC (pc := 31) 2 dX14_end_31 rfl rfl ?_
            refine z_iload_n hC (pc := 32) 1 dX14_end_32 rfl rfl ?_
            obtain ⟨hT, hF⟩ := h
            refine y_icmp_ge hC (pc := 33) 59 hy13 hx1 dX14_end_33 (by decide) (fun c => ?_) (fun c => ?_)
            · have h := hT c
              refine z_iconst hC (pc := 59) (v := Int32.ofInt 0) dX14_end_59 (by decide) ?_
              refine z_istore_n hC (pc := 60) (lv' := [(2, iv 0), (0, .ref (κ 0)), (1, iv x1)]) dX14_end_60 rfl (by decide) rfl ?_
              have j61 : ∀ (d61 : Nat), ∀ (s14 : rS) (y15 : Int), rWF s14 → rng y15 → rKeep 0x9 0 0x6 0 0 σ s14 → inv_X14_end_61 σ x1 s14 y15 → (mu_X14_end_61 σ x1 s14 y15) ≤ d61 → zS X G 3 (rW G κ s14) [(0, .ref (κ 0)), (1, iv x1), (2, iv y15)] 0 0 61 [] := by
                intro d61
                induction d61 with
                | zero =>
                  intro s14 y15 Ws14 hy15 kJ hI hmu
                  exact absurd hmu (by have := h_61m  s14 y15 Ws14 hy15 (VMp.keep kJ rfl rfl) (KYp.keep kJ rfl rfl) (PPp.keep kJ rfl rfl) (WFp.keep kJ rfl rfl) (kJ.F rfl) (kJ.F rfl) (kJ.F rfl) (kJ.F rfl) hI; omega)
                | succ d61 ih61 =>
                  intro s14 y15 Ws14 hy15 kJ hI hmu61
                  have h := h_61  s14 y15 Ws14 hy15 (VMp.keep kJ rfl rfl) (KYp.keep kJ rfl rfl) (PPp.keep kJ rfl rfl) (WFp.keep kJ rfl rfl) (kJ.F rfl) (kJ.F rfl) (kJ.F rfl) (kJ.F rfl) hI
                  refine z_iload_n hC (pc := 61) 2 dX14_end_61 rfl rfl ?_
                  refine z_bipush hC (pc := 62) (v := Int32.ofInt 20) dX14_end_62 (by decide) ?_
                  obtain ⟨hT, hF⟩ := h
                  refine y_icmp_ge hC (pc := 64) 80 hy15 (r_lit rfl) dX14_end_64 (by decide) (fun c => ?_) (fun c => ?_)
                  · have h := hT c
                    refine z_aload_n hC (pc := 80) 0 dX14_end_80 rfl rfl ?_
                    refine z_dup hC (pc := 81) dX14_end_81 rfl ?_
                    refine y_get hC (pc := 82) zf14 rOb_0 3 (v := iv (rF s14 0 3)) dX14_end_82 zw2471 (rv_i (Or.inl rfl) rfl) (kk := ?_)
                    have h := h (Ws14.f _ _)
                    refine z_iload_n hC (pc := 85) 1 dX14_end_85 rfl rfl ?_
                    refine y_iadd hC (pc := 86) (v := ((rF s14 0 3) + x1)) dX14_end_86 rfl ?_
                    obtain ⟨r16, h⟩ := h
                    refine y_putI hC (pc := 87) zf14 rOb_0 3 (x := ((rF s14 0 3) + x1)) dX14_end_87 zw2471 (Or.inl rfl) rfl rfl (kk := ?_)
                    have W17 := Ws14.sF (q := 0) (f := 3) (x := ((rF s14 0 3) + x1)) r16
                    refine z_aload_n hC (pc := 90) 0 dX14_end_90 rfl rfl ?_
                    refine y_get hC (pc := 91) zf14 rOb_0 3 (v := iv ((rF s14 0 3) + x1)) dX14_end_91 zw2471 (rv_i (Or.inl rfl) (F_sF _ _ _ _)) (kk := ?_)
                    exact y_reti hR dX14_end_94 rfl r16 W17 (Nat.le_of_ble_eq_true rfl) (Nat.le_of_ble_eq_true rfl) ⟨(rKeep.tr (rKeep.tr rKeep.rf kJ rfl rfl rfl rfl rfl) (rKeep.sF0 (f := 3)) rfl rfl rfl rfl rfl), h⟩
                  · have h := hF c
                    refine z_aload_n hC (pc := 67) 0 dX14_end_67 rfl rfl ?_
                    refine y_get hC (pc := 68) zf14 rOb_0 1 (v := .ref (κ 1001)) dX14_end_68 zw2469 (rv_c rfl) (kk := ?_)
                    refine z_iload_n hC (pc := 71) 2 dX14_end_71 rfl rfl ?_
                    refine z_iconst hC (pc := 72) (v := Int32.ofInt 0) dX14_end_72 (by decide) ?_
                    obtain ⟨b18, h⟩ := h
                    refine y_bast hC (pc := 73) (rAr_m rfl) dX14_end_73 b18 (v := 0) (kk := ?_)
                    have W19 := Ws14.sA (p := 1001) (i := y15) (x := (inar .byte 0)) (inar_rng _ _)
                    refine y_iinc hC (pc := 74) (v := (y15 + 1)) (lv' := [(2, iv (y15 + 1)), (0, .ref (κ 0)), (1, iv x1)]) 2 dX14_end_74 rfl rfl (by decide) rfl ?_
                    refine z_goto hC (pc := 77) 61 dX14_end_77 (by decide) ?_
                    refine z_lvs [1, 2, 0] rfl ?_
                    obtain ⟨r20, h⟩ := h
                    obtain ⟨hI, hm⟩ := h
                    exact ih61 (sA s14 1001 y15 (inar .byte 0)) (y15 + 1) W19 r20 (rKeep.tr (rKeep.tr rKeep.rf kJ rfl rfl rfl rfl rfl) (rKeep.sA0 (f := 1) (by decide)) rfl rfl rfl rfl rfl) hI (by omega)
              refine z_lvs [1, 2, 0] rfl ?_
              exact j61 _ s12 0 Ws12 (r_lit rfl) (rKeep.tr rKeep.rf kJ rfl rfl rfl rfl rfl) h (Nat.le_refl _)
            · have h := hF c
              refine z_aload_n hC (pc := 36) 0 dX14_end_36 rfl rfl ?_
              refine y_get hC (pc := 37) zf14 rOb_0 2 (v := .ref (κ 1002)) dX14_end_37 zw2470 (rv_c rfl) (kk := ?_)
              refine z_aload_n hC (pc := 40) 0 dX14_end_40 rfl rfl ?_
              refine y_get hC (pc := 41) zf14 rOb_0 3 (v := iv (rF s12 0 3)) dX14_end_41 zw2471 (rv_i (Or.inl rfl) rfl) (kk := ?_)
              have h := h (Ws12.f _ _)
              refine z_iload_n hC (pc := 44) 2 dX14_end_44 rfl rfl ?_
              refine y_iadd hC (pc := 45) (v := ((rF s12 0 3) + y13)) dX14_end_45 rfl ?_
              refine z_aload_n hC (pc := 46) 0 dX14_end_46 rfl rfl ?_
              refine y_get hC (pc := 47) zf14 rOb_0 1 (v := .ref (κ 1001)) dX14_end_47 zw2469 (rv_c rfl) (kk := ?_)
              refine z_iload_n hC (pc := 50) 2 dX14_end_50 rfl rfl ?_
              obtain ⟨b21, h⟩ := h
              refine y_bald hC (pc := 51) (rAr_m rfl) dX14_end_51 b21 (v := (rA s12 1001 y13)) rfl (kk := ?_)
              have h := h (Ws12.a _ _)
              obtain ⟨b22, h⟩ := h
              refine y_bast hC (pc := 52) (rAr_m rfl) dX14_end_52 b22 (v := (rA s12 1001 y13)) (kk := ?_)
              have W23 := Ws12.sA (p := 1002) (i := ((rF s12 0 3) + y13)) (x := (inar .byte (rA s12 1001 y13))) (inar_rng _ _)
              refine y_iinc hC (pc := 53) (v := (y13 + 1)) (lv' := [(2, iv (y13 + 1)), (0, .ref (κ 0)), (1, iv x1)]) 2 dX14_end_53 rfl rfl (by decide) rfl ?_
              refine z_goto hC (pc := 56) 31 dX14_end_56 (by decide) ?_
              refine z_lvs [1, 2, 0] rfl ?_
              obtain ⟨r24, h⟩ := h
              obtain ⟨hI, hm⟩ := h
              exact ih31 (sA s12 1002 ((rF s12 0 3) + y13) (inar .byte (rA s12 1001 y13))) (y13 + 1) W23 r24 (rKeep.tr (rKeep.tr rKeep.rf kJ rfl rfl rfl rfl rfl) (rKeep.sA0 (f := 2) (by decide)) rfl rfl rfl rfl rfl) hI (by omega)
        refine z_lvs [1, 2, 0] rfl ?_
        exact j31 _ (sF σ 0 0 0) 0 W10 (r_lit rfl) (rKeep.tr rKeep.rf (rKeep.sF0 (f := 0)) rfl rfl rfl rfl rfl) h (Nat.le_refl _)
      · have h := hF c
        refine z_iconst hC (pc := 27) (v := Int32.ofInt (-1)) dX14_end_27 (by decide) ?_
        exact y_reti hR dX14_end_28 rfl (r_lit rfl) W10 (Nat.le_of_ble_eq_true rfl) (Nat.le_of_ble_eq_true rfl) ⟨(rKeep.tr rKeep.rf (rKeep.sF0 (f := 0)) rfl rfl rfl rfl rfl), h⟩
theorem kX14_end (l : Launch) (G : zG) (κ : Nat → Nat) (σ : rS) (x1 : Int) (hwf : rWF σ) (hx1 : rng x1) (hp : pre_X14_end σ x1) : rMi l G κ yX14_end cX14_end 3 .int 1 0 [.ref (κ 0), iv x1] σ (fun x s => rKeep 0x9 0 0x6 0 0 σ s ∧ post_X14_end σ x1 x s) := wX14_end l G κ σ x1 hwf hx1 (post_X14_end σ x1) (vX14_end σ x1 hwf hx1 hp) (vX14_end_61 σ x1 hwf hx1 hp) (vX14_end_61m σ x1 hwf hx1 hp) (vX14_end_31 σ x1 hwf hx1 hp) (vX14_end_31m σ x1 hwf hx1 hp)
def pre_X14_fault (σ : rS) (x1 : Int) : Prop := 0 ≤ (rF σ 0 43) ∧ (rF σ 0 43) ≤ 500 ∧ 0 ≤ (rF σ 0 45) ∧ (rF σ 0 45) ≤ 16000 ∧ 0 ≤ (rF σ 0 44) ∧ (rF σ 0 44) ≤ 4000 ∧ 0 ≤ (rF σ 0 60) ∧ (rF σ 0 60) ≤ 40 ∧ 0 ≤ (rF σ 0 3) ∧ (rF σ 0 3) ≤ 4000 ∧ VMp σ ∧ KYp σ ∧ PPp σ ∧ WFp σ
def post_X14_fault (σ : rS) (x1 : Int) (r : Int) (σ' : rS) : Prop := 0 ≤ (rF σ' 0 43) ∧ (rF σ' 0 43) ≤ 500 ∧ 0 ≤ (rF σ' 0 45) ∧ (rF σ' 0 45) ≤ 16000 ∧ 0 ≤ (rF σ' 0 44) ∧ (rF σ' 0 44) ≤ 4000 ∧ 0 ≤ (rF σ' 0 60) ∧ (rF σ' 0 60) ≤ 40 ∧ 0 ≤ (rF σ' 0 3) ∧ (rF σ' 0 3) ≤ 4000 ∧ VMp σ' ∧ KYp σ' ∧ PPp σ' ∧ WFp σ'
def VC_X14_fault (σ : rS) (x1 : Int) (Q : Int → rS → Prop) : Prop := ((¬ x1 = 0 → (rng (rF σ 0 10) → (((rF σ 0 10) = 0 → Q (-1) (sF σ 0 0 0)) ∧ (¬ (rF σ 0 10) = 0 → ((x1 < 0 → Q (-1) (sF σ 0 0 0)) ∧ (¬ x1 < 0 → ((x1 ≤ 2 → ((¬ x1 = 1 → (rng (rF σ 0 12) → Q (rF σ 0 12) (sF σ 0 0 0))) ∧ (x1 = 1 → (rng (rF σ 0 11) → Q (rF σ 0 11) (sF σ 0 0 0))))) ∧ (¬ x1 ≤ 2 → Q (-1) (sF σ 0 0 0))))))))) ∧ (x1 = 0 → (rng (rF σ 0 10) → Q (rF σ 0 10) (sF σ 0 0 0))))
set_option maxHeartbeats 400000 in
theorem vX14_fault (σ : rS) (x1 : Int) (hwf : rWF σ) (hx1 : rng x1) (hp : pre_X14_fault σ x1) : VC_X14_fault σ x1 (post_X14_fault σ x1) := by
  simp only [VC_X14_fault, pre_X14_fault, post_X14_fault, rng, rfk, rNMp, rF_sF, rF_sA, rF_sL, rF_sR, rA_sA, rA_sF, rA_sL, rA_sR, rR_sF, rR_sA, rR_sL, rR_sR, reduceIte, and_true, true_and, and_false, false_and, and_self, VMp_sL, VMp_sF0, VMp_sF3, VMp_sF10, VMp_sF11, VMp_sF12, VMp_sF13, VMp_sF14, VMp_sF16, VMp_sF17, VMp_sF18, VMp_sF19, VMp_sF21, VMp_sF22, VMp_sF23, VMp_sF24, VMp_sF25, VMp_sF28, VMp_sF29, VMp_sF30, VMp_sF31, VMp_sF32, VMp_sF33, VMp_sF38, VMp_sF39, VMp_sF41, VMp_sF42, VMp_sF43, VMp_sF44, VMp_sF45, VMp_sF60, VMp_sF65, VMp_sF66, VMp_sF67, VMp_sF68, VMp_sF70, VMp_sF71, VMp_sF72, VMp_sF73, VMp_sF74, VMp_sF80, VMp_sF81, VMp_sF82, VMp_sF83, VMp_sF88, VMp_sF92, VMp_sF94, VMp_sF96, VMp_sF97, VMp_sF98, VMp_sF99, VMp_sF100, VMp_sF101, VMp_sF103, VMp_sF104, VMp_sF112, VMp_sF113, VMp_sF118, VMp_sF119, VMp_sF122, VMp_sF123, VMp_sF135, VMp_sF137, VMp_sA1, VMp_sA2, VMp_sA5, VMp_sA20, VMp_sA26, VMp_sA27, VMp_sA34, VMp_sA35, VMp_sA36, VMp_sA37, VMp_sA40, VMp_sA47, VMp_sA48, VMp_sA49, VMp_sA50, VMp_sA52, VMp_sA53, VMp_sA54, VMp_sA55, VMp_sA56, VMp_sA57, VMp_sA58, VMp_sA59, VMp_sA61, VMp_sA62, VMp_sA63, VMp_sA64, VMp_sA69, VMp_sA75, VMp_sA76, VMp_sA77, VMp_sA78, VMp_sA79, VMp_sA84, VMp_sA85, VMp_sA86, VMp_sA87, VMp_sA89, VMp_sA90, VMp_sA91, VMp_sA93, VMp_sA102, VMp_sA105, VMp_sA106, VMp_sA107, VMp_sA108, VMp_sA109, VMp_sA110, VMp_sA111, VMp_sA114, VMp_sA115, VMp_sA116, VMp_sA117, VMp_sA120, VMp_sA121, VMp_sA124, VMp_sA125, VMp_sA126, VMp_sA127, VMp_sA128, VMp_sA129, VMp_sA136, VMp_sA138, VMp_gA0, VMp_gA1, VMp_gA2, VMp_gA3, VMp_gA4, VMp_gA5, VMp_gA6, VMp_gA8, VMp_gA10, VMp_gA11, VMp_gA15, VMp_gA16, VMp_gA17, VMp_gA18, VMp_gA19, VMp_gA20, VMp_gA21, VMp_gA22, VMp_gA23, VMp_gA24, VMp_gA25, VMp_gA26, VMp_gA27, VMp_gA29, VMp_gA30, VMp_gA31, VMp_gA33, VMp_gA34, VMp_gA35, VMp_gA36, VMp_gA37, VMp_sF7, VMp_sF9, KYp_sL, KYp_sF0, KYp_sF3, KYp_sF10, KYp_sF11, KYp_sF12, KYp_sF13, KYp_sF14, KYp_sF16, KYp_sF17, KYp_sF18, KYp_sF19, KYp_sF21, KYp_sF22, KYp_sF23, KYp_sF24, KYp_sF25, KYp_sF28, KYp_sF29, KYp_sF30, KYp_sF31, KYp_sF32, KYp_sF33, KYp_sF38, KYp_sF39, KYp_sF41, KYp_sF42, KYp_sF43, KYp_sF44, KYp_sF45, KYp_sF60, KYp_sF65, KYp_sF66, KYp_sF67, KYp_sF68, KYp_sF70, KYp_sF71, KYp_sF72, KYp_sF73, KYp_sF74, KYp_sF80, KYp_sF81, KYp_sF82, KYp_sF83, KYp_sF88, KYp_sF92, KYp_sF94, KYp_sF96, KYp_sF97, KYp_sF98, KYp_sF99, KYp_sF100, KYp_sF101, KYp_sF103, KYp_sF104, KYp_sF112, KYp_sF113, KYp_sF118, KYp_sF119, KYp_sF122, KYp_sF123, KYp_sF135, KYp_sF137, KYp_sA1, KYp_sA2, KYp_sA5, KYp_sA20, KYp_sA26, KYp_sA27, KYp_sA34, KYp_sA35, KYp_sA36, KYp_sA37, KYp_sA40, KYp_sA46, KYp_sA47, KYp_sA48, KYp_sA49, KYp_sA50, KYp_sA51, KYp_sA52, KYp_sA55, KYp_sA56, KYp_sA57, KYp_sA58, KYp_sA59, KYp_sA61, KYp_sA62, KYp_sA63, KYp_sA64, KYp_sA69, KYp_sA75, KYp_sA76, KYp_sA77, KYp_sA78, KYp_sA79, KYp_sA84, KYp_sA85, KYp_sA86, KYp_sA87, KYp_sA89, KYp_sA90, KYp_sA91, KYp_sA93, KYp_sA102, KYp_sA105, KYp_sA106, KYp_sA107, KYp_sA108, KYp_sA109, KYp_sA110, KYp_sA111, KYp_sA114, KYp_sA115, KYp_sA116, KYp_sA117, KYp_sA120, KYp_sA121, KYp_sA124, KYp_sA125, KYp_sA126, KYp_sA127, KYp_sA128, KYp_sA129, KYp_sA136, KYp_sA138, KYp_gA0, KYp_gA1, KYp_gA2, KYp_gA3, KYp_gA4, KYp_gA5, KYp_gA6, KYp_gA8, KYp_gA10, KYp_gA11, KYp_gA15, KYp_gA16, KYp_gA17, KYp_gA18, KYp_gA19, KYp_gA20, KYp_gA21, KYp_gA22, KYp_gA23, KYp_gA24, KYp_gA25, KYp_gA26, KYp_gA27, KYp_gA29, KYp_gA30, KYp_gA31, KYp_gA33, KYp_gA34, KYp_gA35, KYp_gA36, KYp_gA37, KYp_sF7, KYp_sF9, PPp_sL, PPp_sF0, PPp_sF3, PPp_sF10, PPp_sF11, PPp_sF12, PPp_sF13, PPp_sF14, PPp_sF16, PPp_sF17, PPp_sF18, PPp_sF19, PPp_sF21, PPp_sF22, PPp_sF23, PPp_sF24, PPp_sF25, PPp_sF28, PPp_sF29, PPp_sF30, PPp_sF31, PPp_sF32, PPp_sF33, PPp_sF38, PPp_sF39, PPp_sF41, PPp_sF42, PPp_sF43, PPp_sF44, PPp_sF45, PPp_sF60, PPp_sF65, PPp_sF66, PPp_sF67, PPp_sF68, PPp_sF70, PPp_sF71, PPp_sF72, PPp_sF73, PPp_sF74, PPp_sF80, PPp_sF81, PPp_sF82, PPp_sF83, PPp_sF88, PPp_sF92, PPp_sF94, PPp_sF96, PPp_sF97, PPp_sF98, PPp_sF99, PPp_sF100, PPp_sF101, PPp_sF103, PPp_sF104, PPp_sF112, PPp_sF113, PPp_sF118, PPp_sF119, PPp_sF122, PPp_sF123, PPp_sF135, PPp_sF137, PPp_sA1, PPp_sA2, PPp_sA5, PPp_sA20, PPp_sA26, PPp_sA27, PPp_sA34, PPp_sA35, PPp_sA36, PPp_sA37, PPp_sA40, PPp_sA46, PPp_sA47, PPp_sA48, PPp_sA49, PPp_sA50, PPp_sA51, PPp_sA52, PPp_sA53, PPp_sA54, PPp_sA55, PPp_sA58, PPp_sA59, PPp_sA61, PPp_sA62, PPp_sA63, PPp_sA64, PPp_sA69, PPp_sA75, PPp_sA76, PPp_sA77, PPp_sA78, PPp_sA79, PPp_sA84, PPp_sA85, PPp_sA86, PPp_sA87, PPp_sA89, PPp_sA90, PPp_sA91, PPp_sA93, PPp_sA102, PPp_sA105, PPp_sA106, PPp_sA107, PPp_sA108, PPp_sA109, PPp_sA110, PPp_sA111, PPp_sA114, PPp_sA115, PPp_sA116, PPp_sA117, PPp_sA120, PPp_sA121, PPp_sA124, PPp_sA125, PPp_sA126, PPp_sA127, PPp_sA128, PPp_sA129, PPp_sA136, PPp_sA138, PPp_gA0, PPp_gA1, PPp_gA2, PPp_gA3, PPp_gA4, PPp_gA5, PPp_gA6, PPp_gA8, PPp_gA10, PPp_gA11, PPp_gA15, PPp_gA16, PPp_gA17, PPp_gA18, PPp_gA19, PPp_gA20, PPp_gA21, PPp_gA22, PPp_gA23, PPp_gA24, PPp_gA25, PPp_gA26, PPp_gA27, PPp_gA29, PPp_gA30, PPp_gA31, PPp_gA33, PPp_gA34, PPp_gA35, PPp_gA36, PPp_gA37, PPp_sF7, PPp_sF9, WFp_sL, WFp_sF0, WFp_sF3, WFp_sF10, WFp_sF11, WFp_sF12, WFp_sF13, WFp_sF14, WFp_sF16, WFp_sF17, WFp_sF18, WFp_sF19, WFp_sF21, WFp_sF22, WFp_sF23, WFp_sF24, WFp_sF25, WFp_sF28, WFp_sF29, WFp_sF30, WFp_sF31, WFp_sF32, WFp_sF33, WFp_sF38, WFp_sF39, WFp_sF41, WFp_sF42, WFp_sF43, WFp_sF44, WFp_sF45, WFp_sF60, WFp_sF65, WFp_sF66, WFp_sF67, WFp_sF68, WFp_sF70, WFp_sF71, WFp_sF72, WFp_sF73, WFp_sF74, WFp_sF80, WFp_sF81, WFp_sF82, WFp_sF83, WFp_sF88, WFp_sF92, WFp_sF94, WFp_sF96, WFp_sF97, WFp_sF98, WFp_sF99, WFp_sF100, WFp_sF101, WFp_sF103, WFp_sF104, WFp_sF112, WFp_sF113, WFp_sF118, WFp_sF119, WFp_sF122, WFp_sF123, WFp_sF135, WFp_sF137, WFp_sA1, WFp_sA2, WFp_sA5, WFp_sA20, WFp_sA26, WFp_sA27, WFp_sA34, WFp_sA35, WFp_sA36, WFp_sA37, WFp_sA40, WFp_sA46, WFp_sA47, WFp_sA48, WFp_sA51, WFp_sA52, WFp_sA53, WFp_sA54, WFp_sA55, WFp_sA56, WFp_sA57, WFp_sA58, WFp_sA59, WFp_sA61, WFp_sA62, WFp_sA63, WFp_sA64, WFp_sA69, WFp_sA75, WFp_sA76, WFp_sA77, WFp_sA78, WFp_sA79, WFp_sA84, WFp_sA85, WFp_sA86, WFp_sA87, WFp_sA89, WFp_sA90, WFp_sA91, WFp_sA93, WFp_sA102, WFp_sA105, WFp_sA106, WFp_sA107, WFp_sA108, WFp_sA109, WFp_sA110, WFp_sA111, WFp_sA114, WFp_sA115, WFp_sA116, WFp_sA117, WFp_sA120, WFp_sA121, WFp_sA124, WFp_sA125, WFp_sA126, WFp_sA127, WFp_sA128, WFp_sA129, WFp_sA136, WFp_sA138, WFp_gA0, WFp_gA1, WFp_gA2, WFp_gA3, WFp_gA4, WFp_gA5, WFp_gA6, WFp_gA8, WFp_gA10, WFp_gA11, WFp_gA15, WFp_gA16, WFp_gA17, WFp_gA18, WFp_gA19, WFp_gA20, WFp_gA21, WFp_gA22, WFp_gA23, WFp_gA24, WFp_gA25, WFp_gA26, WFp_gA27, WFp_gA29, WFp_gA30, WFp_gA31, WFp_gA33, WFp_gA34, WFp_gA35, WFp_gA36, WFp_gA37, WFp_sF7, WFp_sF9] at *
  (repeat' (first | with_reducible intro _ | with_reducible apply And.intro))
  all_goals (first | assumption | omega | grind (splits := 20) [rNM_sF0])
theorem wX14_fault (l : Launch) (G : zG) (κ : Nat → Nat) (σ : rS) (x1 : Int) (hwf : rWF σ) (hx1 : rng x1) (Q : Int → rS → Prop) (h : VC_X14_fault σ x1 Q) : rMi l G κ yX14_fault cX14_fault 2 .int 1 0 [.ref (κ 0), iv x1] σ (fun x s => rKeep 0x1 0 0 0 0 σ s ∧ Q x s) := by
  refine zMi.intro (by decide +kernel) (Nat.le_of_ble_eq_true rfl) (fun X hC hR => ?_)
  refine z_aload_n hC (pc := 0) 0 dX14_fault_0 rfl rfl ?_
  refine z_iconst hC (pc := 1) (v := Int32.ofInt 0) dX14_fault_1 (by decide) ?_
  refine y_putI hC (pc := 2) zf14 rOb_0 0 (x := 0) dX14_fault_2 zw2468 (Or.inl rfl) rfl rfl (kk := ?_)
  have W10 := hwf.sF (q := 0) (f := 0) (x := 0) (r_lit rfl)
  refine z_iload_n hC (pc := 5) 1 dX14_fault_5 rfl rfl ?_
  obtain ⟨hT, hF⟩ := h
  refine y_if_ne hC (pc := 6) 16 hx1 dX14_fault_6 (by decide) (fun c => ?_) (fun c => ?_)
  · have h := hT c
    refine z_aload_n hC (pc := 16) 0 dX14_fault_16 rfl rfl ?_
    refine y_get hC (pc := 17) zf14 rOb_0 10 (v := iv (rF σ 0 10)) dX14_fault_17 zw2478 (rv_i (Or.inl rfl) ((F_sF_ne (by decide)).trans rfl)) (kk := ?_)
    have h := h (hwf.f _ _)
    obtain ⟨hT, hF⟩ := h
    refine y_if_eq hC (pc := 20) 32 (hwf.f _ _) dX14_fault_20 (by decide) (fun c => ?_) (fun c => ?_)
    · have h := hT c
      refine z_iconst hC (pc := 32) (v := Int32.ofInt (-1)) dX14_fault_32 (by decide) ?_
      refine z_goto hC (pc := 33) 52 dX14_fault_33 (by decide) ?_
      exact y_reti hR dX14_fault_52 rfl (r_lit rfl) W10 (Nat.le_of_ble_eq_true rfl) (Nat.le_of_ble_eq_true rfl) ⟨(rKeep.tr rKeep.rf (rKeep.sF0 (f := 0)) rfl rfl rfl rfl rfl), h⟩
    · have h := hF c
      refine z_iload_n hC (pc := 23) 1 dX14_fault_23 rfl rfl ?_
      obtain ⟨hT, hF⟩ := h
      refine y_if_lt hC (pc := 24) 32 hx1 dX14_fault_24 (by decide) (fun c => ?_) (fun c => ?_)
      · have h := hT c
        refine z_iconst hC (pc := 32) (v := Int32.ofInt (-1)) dX14_fault_32 (by decide) ?_
        refine z_goto hC (pc := 33) 52 dX14_fault_33 (by decide) ?_
        exact y_reti hR dX14_fault_52 rfl (r_lit rfl) W10 (Nat.le_of_ble_eq_true rfl) (Nat.le_of_ble_eq_true rfl) ⟨(rKeep.tr rKeep.rf (rKeep.sF0 (f := 0)) rfl rfl rfl rfl rfl), h⟩
      · have h := hF c
        refine z_iload_n hC (pc := 27) 1 dX14_fault_27 rfl rfl ?_
        refine z_iconst hC (pc := 28) (v := Int32.ofInt 2) dX14_fault_28 (by decide) ?_
        obtain ⟨hT, hF⟩ := h
        refine y_icmp_le hC (pc := 29) 36 hx1 (r_lit rfl) dX14_fault_29 (by decide) (fun c => ?_) (fun c => ?_)
        · have h := hT c
          refine z_iload_n hC (pc := 36) 1 dX14_fault_36 rfl rfl ?_
          refine z_iconst hC (pc := 37) (v := Int32.ofInt 1) dX14_fault_37 (by decide) ?_
          obtain ⟨hT, hF⟩ := h
          refine y_icmp_ne hC (pc := 38) 48 hx1 (r_lit rfl) dX14_fault_38 (by decide) (fun c => ?_) (fun c => ?_)
          · have h := hT c
            refine z_aload_n hC (pc := 48) 0 dX14_fault_48 rfl rfl ?_
            refine y_get hC (pc := 49) zf14 rOb_0 12 (v := iv (rF σ 0 12)) dX14_fault_49 zw2480 (rv_i (Or.inl rfl) ((F_sF_ne (by decide)).trans rfl)) (kk := ?_)
            have h := h (hwf.f _ _)
            exact y_reti hR dX14_fault_52 rfl (hwf.f _ _) W10 (Nat.le_of_ble_eq_true rfl) (Nat.le_of_ble_eq_true rfl) ⟨(rKeep.tr rKeep.rf (rKeep.sF0 (f := 0)) rfl rfl rfl rfl rfl), h⟩
          · have h := hF c
            refine z_aload_n hC (pc := 41) 0 dX14_fault_41 rfl rfl ?_
            refine y_get hC (pc := 42) zf14 rOb_0 11 (v := iv (rF σ 0 11)) dX14_fault_42 zw2479 (rv_i (Or.inl rfl) ((F_sF_ne (by decide)).trans rfl)) (kk := ?_)
            have h := h (hwf.f _ _)
            refine z_goto hC (pc := 45) 52 dX14_fault_45 (by decide) ?_
            exact y_reti hR dX14_fault_52 rfl (hwf.f _ _) W10 (Nat.le_of_ble_eq_true rfl) (Nat.le_of_ble_eq_true rfl) ⟨(rKeep.tr rKeep.rf (rKeep.sF0 (f := 0)) rfl rfl rfl rfl rfl), h⟩
        · have h := hF c
          refine z_iconst hC (pc := 32) (v := Int32.ofInt (-1)) dX14_fault_32 (by decide) ?_
          refine z_goto hC (pc := 33) 52 dX14_fault_33 (by decide) ?_
          exact y_reti hR dX14_fault_52 rfl (r_lit rfl) W10 (Nat.le_of_ble_eq_true rfl) (Nat.le_of_ble_eq_true rfl) ⟨(rKeep.tr rKeep.rf (rKeep.sF0 (f := 0)) rfl rfl rfl rfl rfl), h⟩
  · have h := hF c
    refine z_aload_n hC (pc := 9) 0 dX14_fault_9 rfl rfl ?_
    refine y_get hC (pc := 10) zf14 rOb_0 10 (v := iv (rF σ 0 10)) dX14_fault_10 zw2478 (rv_i (Or.inl rfl) ((F_sF_ne (by decide)).trans rfl)) (kk := ?_)
    have h := h (hwf.f _ _)
    refine z_goto hC (pc := 13) 52 dX14_fault_13 (by decide) ?_
    exact y_reti hR dX14_fault_52 rfl (hwf.f _ _) W10 (Nat.le_of_ble_eq_true rfl) (Nat.le_of_ble_eq_true rfl) ⟨(rKeep.tr rKeep.rf (rKeep.sF0 (f := 0)) rfl rfl rfl rfl rfl), h⟩
theorem kX14_fault (l : Launch) (G : zG) (κ : Nat → Nat) (σ : rS) (x1 : Int) (hwf : rWF σ) (hx1 : rng x1) (hp : pre_X14_fault σ x1) : rMi l G κ yX14_fault cX14_fault 2 .int 1 0 [.ref (κ 0), iv x1] σ (fun x s => rKeep 0x1 0 0 0 0 σ s ∧ post_X14_fault σ x1 x s) := wX14_fault l G κ σ x1 hwf hx1 (post_X14_fault σ x1) (vX14_fault σ x1 hwf hx1 hp) 
def pre_X14_stop (σ : rS)  : Prop := 0 ≤ (rF σ 0 43) ∧ (rF σ 0 43) ≤ 500 ∧ 0 ≤ (rF σ 0 45) ∧ (rF σ 0 45) ≤ 16000 ∧ 0 ≤ (rF σ 0 44) ∧ (rF σ 0 44) ≤ 4000 ∧ 0 ≤ (rF σ 0 60) ∧ (rF σ 0 60) ≤ 40 ∧ 0 ≤ (rF σ 0 3) ∧ (rF σ 0 3) ≤ 4000 ∧ VMp σ ∧ KYp σ ∧ PPp σ ∧ WFp σ
def post_X14_stop (σ : rS)  (r : Int) (σ' : rS) : Prop := 0 ≤ (rF σ' 0 43) ∧ (rF σ' 0 43) ≤ 500 ∧ 0 ≤ (rF σ' 0 45) ∧ (rF σ' 0 45) ≤ 16000 ∧ 0 ≤ (rF σ' 0 44) ∧ (rF σ' 0 44) ≤ 4000 ∧ 0 ≤ (rF σ' 0 60) ∧ (rF σ' 0 60) ≤ 40 ∧ 0 ≤ (rF σ' 0 3) ∧ (rF σ' 0 3) ≤ 4000 ∧ VMp σ' ∧ KYp σ' ∧ PPp σ' ∧ WFp σ'
def VC_X14_stop (σ : rS) (Q : Int → rS → Prop) : Prop := pre_X14_isMade (sF σ 0 0 0) ∧ (∀ (x13 : Int), rng x13 → post_X14_isMade (sF σ 0 0 0) x13 → ((¬ x13 = 0 → Q 1 (sF (sF σ 0 0 0) 0 68 4)) ∧ (x13 = 0 → Q 0 (sF σ 0 0 0))))
set_option maxHeartbeats 400000 in
theorem vX14_stop (σ : rS) (hwf : rWF σ) (hp : pre_X14_stop σ ) : VC_X14_stop σ (post_X14_stop σ ) := by
  simp only [VC_X14_stop, pre_X14_stop, post_X14_stop, pre_X14_isMade, post_X14_isMade, rng, rfk, rNMp, rF_sF, rF_sA, rF_sL, rF_sR, rA_sA, rA_sF, rA_sL, rA_sR, rR_sF, rR_sA, rR_sL, rR_sR, reduceIte, and_true, true_and, and_false, false_and, and_self, VMp_sL, VMp_sF0, VMp_sF3, VMp_sF10, VMp_sF11, VMp_sF12, VMp_sF13, VMp_sF14, VMp_sF16, VMp_sF17, VMp_sF18, VMp_sF19, VMp_sF21, VMp_sF22, VMp_sF23, VMp_sF24, VMp_sF25, VMp_sF28, VMp_sF29, VMp_sF30, VMp_sF31, VMp_sF32, VMp_sF33, VMp_sF38, VMp_sF39, VMp_sF41, VMp_sF42, VMp_sF43, VMp_sF44, VMp_sF45, VMp_sF60, VMp_sF65, VMp_sF66, VMp_sF67, VMp_sF68, VMp_sF70, VMp_sF71, VMp_sF72, VMp_sF73, VMp_sF74, VMp_sF80, VMp_sF81, VMp_sF82, VMp_sF83, VMp_sF88, VMp_sF92, VMp_sF94, VMp_sF96, VMp_sF97, VMp_sF98, VMp_sF99, VMp_sF100, VMp_sF101, VMp_sF103, VMp_sF104, VMp_sF112, VMp_sF113, VMp_sF118, VMp_sF119, VMp_sF122, VMp_sF123, VMp_sF135, VMp_sF137, VMp_sA1, VMp_sA2, VMp_sA5, VMp_sA20, VMp_sA26, VMp_sA27, VMp_sA34, VMp_sA35, VMp_sA36, VMp_sA37, VMp_sA40, VMp_sA47, VMp_sA48, VMp_sA49, VMp_sA50, VMp_sA52, VMp_sA53, VMp_sA54, VMp_sA55, VMp_sA56, VMp_sA57, VMp_sA58, VMp_sA59, VMp_sA61, VMp_sA62, VMp_sA63, VMp_sA64, VMp_sA69, VMp_sA75, VMp_sA76, VMp_sA77, VMp_sA78, VMp_sA79, VMp_sA84, VMp_sA85, VMp_sA86, VMp_sA87, VMp_sA89, VMp_sA90, VMp_sA91, VMp_sA93, VMp_sA102, VMp_sA105, VMp_sA106, VMp_sA107, VMp_sA108, VMp_sA109, VMp_sA110, VMp_sA111, VMp_sA114, VMp_sA115, VMp_sA116, VMp_sA117, VMp_sA120, VMp_sA121, VMp_sA124, VMp_sA125, VMp_sA126, VMp_sA127, VMp_sA128, VMp_sA129, VMp_sA136, VMp_sA138, VMp_gA0, VMp_gA1, VMp_gA2, VMp_gA3, VMp_gA4, VMp_gA5, VMp_gA6, VMp_gA8, VMp_gA10, VMp_gA11, VMp_gA15, VMp_gA16, VMp_gA17, VMp_gA18, VMp_gA19, VMp_gA20, VMp_gA21, VMp_gA22, VMp_gA23, VMp_gA24, VMp_gA25, VMp_gA26, VMp_gA27, VMp_gA29, VMp_gA30, VMp_gA31, VMp_gA33, VMp_gA34, VMp_gA35, VMp_gA36, VMp_gA37, VMp_sF7, VMp_sF9, KYp_sL, KYp_sF0, KYp_sF3, KYp_sF10, KYp_sF11, KYp_sF12, KYp_sF13, KYp_sF14, KYp_sF16, KYp_sF17, KYp_sF18, KYp_sF19, KYp_sF21, KYp_sF22, KYp_sF23, KYp_sF24, KYp_sF25, KYp_sF28, KYp_sF29, KYp_sF30, KYp_sF31, KYp_sF32, KYp_sF33, KYp_sF38, KYp_sF39, KYp_sF41, KYp_sF42, KYp_sF43, KYp_sF44, KYp_sF45, KYp_sF60, KYp_sF65, KYp_sF66, KYp_sF67, KYp_sF68, KYp_sF70, KYp_sF71, KYp_sF72, KYp_sF73, KYp_sF74, KYp_sF80, KYp_sF81, KYp_sF82, KYp_sF83, KYp_sF88, KYp_sF92, KYp_sF94, KYp_sF96, KYp_sF97, KYp_sF98, KYp_sF99, KYp_sF100, KYp_sF101, KYp_sF103, KYp_sF104, KYp_sF112, KYp_sF113, KYp_sF118, KYp_sF119, KYp_sF122, KYp_sF123, KYp_sF135, KYp_sF137, KYp_sA1, KYp_sA2, KYp_sA5, KYp_sA20, KYp_sA26, KYp_sA27, KYp_sA34, KYp_sA35, KYp_sA36, KYp_sA37, KYp_sA40, KYp_sA46, KYp_sA47, KYp_sA48, KYp_sA49, KYp_sA50, KYp_sA51, KYp_sA52, KYp_sA55, KYp_sA56, KYp_sA57, KYp_sA58, KYp_sA59, KYp_sA61, KYp_sA62, KYp_sA63, KYp_sA64, KYp_sA69, KYp_sA75, KYp_sA76, KYp_sA77, KYp_sA78, KYp_sA79, KYp_sA84, KYp_sA85, KYp_sA86, KYp_sA87, KYp_sA89, KYp_sA90, KYp_sA91, KYp_sA93, KYp_sA102, KYp_sA105, KYp_sA106, KYp_sA107, KYp_sA108, KYp_sA109, KYp_sA110, KYp_sA111, KYp_sA114, KYp_sA115, KYp_sA116, KYp_sA117, KYp_sA120, KYp_sA121, KYp_sA124, KYp_sA125, KYp_sA126, KYp_sA127, KYp_sA128, KYp_sA129, KYp_sA136, KYp_sA138, KYp_gA0, KYp_gA1, KYp_gA2, KYp_gA3, KYp_gA4, KYp_gA5, KYp_gA6, KYp_gA8, KYp_gA10, KYp_gA11, KYp_gA15, KYp_gA16, KYp_gA17, KYp_gA18, KYp_gA19, KYp_gA20, KYp_gA21, KYp_gA22, KYp_gA23, KYp_gA24, KYp_gA25, KYp_gA26, KYp_gA27, KYp_gA29, KYp_gA30, KYp_gA31, KYp_gA33, KYp_gA34, KYp_gA35, KYp_gA36, KYp_gA37, KYp_sF7, KYp_sF9, PPp_sL, PPp_sF0, PPp_sF3, PPp_sF10, PPp_sF11, PPp_sF12, PPp_sF13, PPp_sF14, PPp_sF16, PPp_sF17, PPp_sF18, PPp_sF19, PPp_sF21, PPp_sF22, PPp_sF23, PPp_sF24, PPp_sF25, PPp_sF28, PPp_sF29, PPp_sF30, PPp_sF31, PPp_sF32, PPp_sF33, PPp_sF38, PPp_sF39, PPp_sF41, PPp_sF42, PPp_sF43, PPp_sF44, PPp_sF45, PPp_sF60, PPp_sF65, PPp_sF66, PPp_sF67, PPp_sF68, PPp_sF70, PPp_sF71, PPp_sF72, PPp_sF73, PPp_sF74, PPp_sF80, PPp_sF81, PPp_sF82, PPp_sF83, PPp_sF88, PPp_sF92, PPp_sF94, PPp_sF96, PPp_sF97, PPp_sF98, PPp_sF99, PPp_sF100, PPp_sF101, PPp_sF103, PPp_sF104, PPp_sF112, PPp_sF113, PPp_sF118, PPp_sF119, PPp_sF122, PPp_sF123, PPp_sF135, PPp_sF137, PPp_sA1, PPp_sA2, PPp_sA5, PPp_sA20, PPp_sA26, PPp_sA27, PPp_sA34, PPp_sA35, PPp_sA36, PPp_sA37, PPp_sA40, PPp_sA46, PPp_sA47, PPp_sA48, PPp_sA49, PPp_sA50, PPp_sA51, PPp_sA52, PPp_sA53, PPp_sA54, PPp_sA55, PPp_sA58, PPp_sA59, PPp_sA61, PPp_sA62, PPp_sA63, PPp_sA64, PPp_sA69, PPp_sA75, PPp_sA76, PPp_sA77, PPp_sA78, PPp_sA79, PPp_sA84, PPp_sA85, PPp_sA86, PPp_sA87, PPp_sA89, PPp_sA90, PPp_sA91, PPp_sA93, PPp_sA102, PPp_sA105, PPp_sA106, PPp_sA107, PPp_sA108, PPp_sA109, PPp_sA110, PPp_sA111, PPp_sA114, PPp_sA115, PPp_sA116, PPp_sA117, PPp_sA120, PPp_sA121, PPp_sA124, PPp_sA125, PPp_sA126, PPp_sA127, PPp_sA128, PPp_sA129, PPp_sA136, PPp_sA138, PPp_gA0, PPp_gA1, PPp_gA2, PPp_gA3, PPp_gA4, PPp_gA5, PPp_gA6, PPp_gA8, PPp_gA10, PPp_gA11, PPp_gA15, PPp_gA16, PPp_gA17, PPp_gA18, PPp_gA19, PPp_gA20, PPp_gA21, PPp_gA22, PPp_gA23, PPp_gA24, PPp_gA25, PPp_gA26, PPp_gA27, PPp_gA29, PPp_gA30, PPp_gA31, PPp_gA33, PPp_gA34, PPp_gA35, PPp_gA36, PPp_gA37, PPp_sF7, PPp_sF9, WFp_sL, WFp_sF0, WFp_sF3, WFp_sF10, WFp_sF11, WFp_sF12, WFp_sF13, WFp_sF14, WFp_sF16, WFp_sF17, WFp_sF18, WFp_sF19, WFp_sF21, WFp_sF22, WFp_sF23, WFp_sF24, WFp_sF25, WFp_sF28, WFp_sF29, WFp_sF30, WFp_sF31, WFp_sF32, WFp_sF33, WFp_sF38, WFp_sF39, WFp_sF41, WFp_sF42, WFp_sF43, WFp_sF44, WFp_sF45, WFp_sF60, WFp_sF65, WFp_sF66, WFp_sF67, WFp_sF68, WFp_sF70, WFp_sF71, WFp_sF72, WFp_sF73, WFp_sF74, WFp_sF80, WFp_sF81, WFp_sF82, WFp_sF83, WFp_sF88, WFp_sF92, WFp_sF94, WFp_sF96, WFp_sF97, WFp_sF98, WFp_sF99, WFp_sF100, WFp_sF101, WFp_sF103, WFp_sF104, WFp_sF112, WFp_sF113, WFp_sF118, WFp_sF119, WFp_sF122, WFp_sF123, WFp_sF135, WFp_sF137, WFp_sA1, WFp_sA2, WFp_sA5, WFp_sA20, WFp_sA26, WFp_sA27, WFp_sA34, WFp_sA35, WFp_sA36, WFp_sA37, WFp_sA40, WFp_sA46, WFp_sA47, WFp_sA48, WFp_sA51, WFp_sA52, WFp_sA53, WFp_sA54, WFp_sA55, WFp_sA56, WFp_sA57, WFp_sA58, WFp_sA59, WFp_sA61, WFp_sA62, WFp_sA63, WFp_sA64, WFp_sA69, WFp_sA75, WFp_sA76, WFp_sA77, WFp_sA78, WFp_sA79, WFp_sA84, WFp_sA85, WFp_sA86, WFp_sA87, WFp_sA89, WFp_sA90, WFp_sA91, WFp_sA93, WFp_sA102, WFp_sA105, WFp_sA106, WFp_sA107, WFp_sA108, WFp_sA109, WFp_sA110, WFp_sA111, WFp_sA114, WFp_sA115, WFp_sA116, WFp_sA117, WFp_sA120, WFp_sA121, WFp_sA124, WFp_sA125, WFp_sA126, WFp_sA127, WFp_sA128, WFp_sA129, WFp_sA136, WFp_sA138, WFp_gA0, WFp_gA1, WFp_gA2, WFp_gA3, WFp_gA4, WFp_gA5, WFp_gA6, WFp_gA8, WFp_gA10, WFp_gA11, WFp_gA15, WFp_gA16, WFp_gA17, WFp_gA18, WFp_gA19, WFp_gA20, WFp_gA21, WFp_gA22, WFp_gA23, WFp_gA24, WFp_gA25, WFp_gA26, WFp_gA27, WFp_gA29, WFp_gA30, WFp_gA31, WFp_gA33, WFp_gA34, WFp_gA35, WFp_gA36, WFp_gA37, WFp_sF7, WFp_sF9] at *
  (repeat' (first | with_reducible intro _ | with_reducible apply And.intro))
  all_goals (first | assumption | omega | grind (splits := 20) [rNM_sF0])
theorem wX14_stop (l : Launch) (G : zG) (κ : Nat → Nat) (σ : rS) (hwf : rWF σ) (Q : Int → rS → Prop) (h : VC_X14_stop σ Q) : rMi l G κ yX14_stop cX14_stop 1 .boolean 2 20 [.ref (κ 0)] σ (fun x s => rKeep 0x100000000000000001 0 0 0 0 σ s ∧ Q x s) := by
  refine zMi.intro (by decide +kernel) (Nat.le_of_ble_eq_true rfl) (fun X hC hR => ?_)
  refine z_aload_n hC (pc := 0) 0 dX14_stop_0 rfl rfl ?_
  refine z_iconst hC (pc := 1) (v := Int32.ofInt 0) dX14_stop_1 (by decide) ?_
  refine y_putI hC (pc := 2) zf14 rOb_0 0 (x := 0) dX14_stop_2 zw2468 (Or.inl rfl) rfl rfl (kk := ?_)
  have W10 := hwf.sF (q := 0) (f := 0) (x := 0) (r_lit rfl)
  refine z_aload_n hC (pc := 5) 0 dX14_stop_5 rfl rfl ?_
  obtain ⟨p11, h⟩ := h
  refine y_callVi hC (pc := 6) (As := []) (kX14_isMade l G κ (sF σ 0 0 0)  W10  p11) dmX14_isMade zf14 rOb_0 dX14_stop_6 zw2893 rfl rfl (Nat.le_of_ble_eq_true rfl) (Nat.le_of_ble_eq_true rfl) (Nat.le_of_ble_eq_true rfl) (Nat.le_of_ble_eq_true rfl) (Nat.le_of_ble_eq_true rfl) (kk := fun x13 s12 hx13 Ws12 qs12 => ?_)
  obtain ⟨es12, qs12⟩ := qs12
  have es12 := es12.symm
  subst es12
  have h := h x13 hx13 qs12
  obtain ⟨hT, hF⟩ := h
  refine y_if_ne hC (pc := 9) 14 hx13 dX14_stop_9 (by decide) (fun c => ?_) (fun c => ?_)
  · have h := hT c
    refine z_aload_n hC (pc := 14) 0 dX14_stop_14 rfl rfl ?_
    refine z_iconst hC (pc := 15) (v := Int32.ofInt 4) dX14_stop_15 (by decide) ?_
    refine y_putI hC (pc := 16) zf14 rOb_0 68 (x := 4) dX14_stop_16 zw2535 (Or.inl rfl) rfl rfl (kk := ?_)
    have W14 := W10.sF (q := 0) (f := 68) (x := 4) (r_lit rfl)
    refine z_iconst hC (pc := 19) (v := Int32.ofInt 1) dX14_stop_19 (by decide) ?_
    exact y_reti hR dX14_stop_20 rfl (r_lit rfl) W14 (Nat.le_of_ble_eq_true rfl) (Nat.le_of_ble_eq_true rfl) ⟨(rKeep.tr (rKeep.tr rKeep.rf (rKeep.sF0 (f := 0)) rfl rfl rfl rfl rfl) (rKeep.sF0 (f := 68)) rfl rfl rfl rfl rfl), h⟩
  · have h := hF c
    refine z_iconst hC (pc := 12) (v := Int32.ofInt 0) dX14_stop_12 (by decide) ?_
    exact y_reti hR dX14_stop_13 rfl (r_lit rfl) W10 (Nat.le_of_ble_eq_true rfl) (Nat.le_of_ble_eq_true rfl) ⟨(rKeep.tr rKeep.rf (rKeep.sF0 (f := 0)) rfl rfl rfl rfl rfl), h⟩
theorem kX14_stop (l : Launch) (G : zG) (κ : Nat → Nat) (σ : rS) (hwf : rWF σ) (hp : pre_X14_stop σ ) : rMi l G κ yX14_stop cX14_stop 1 .boolean 2 20 [.ref (κ 0)] σ (fun x s => rKeep 0x100000000000000001 0 0 0 0 σ s ∧ post_X14_stop σ x s) := wX14_stop l G κ σ hwf (post_X14_stop σ ) (vX14_stop σ hwf hp) 
def pre_X14_byteOf (σ : rS) (x1 : Int) : Prop := 0 ≤ (rF σ 0 43) ∧ (rF σ 0 43) ≤ 500 ∧ 0 ≤ (rF σ 0 45) ∧ (rF σ 0 45) ≤ 16000 ∧ 0 ≤ (rF σ 0 44) ∧ (rF σ 0 44) ≤ 4000 ∧ 0 ≤ (rF σ 0 60) ∧ (rF σ 0 60) ≤ 40 ∧ 0 ≤ (rF σ 0 3) ∧ (rF σ 0 3) ≤ 4000 ∧ VMp σ ∧ KYp σ ∧ PPp σ ∧ WFp σ ∧ (rF σ 0 70) ≤ 12000
def post_X14_byteOf (σ : rS) (x1 : Int) (r : Int) (σ' : rS) : Prop := 0 ≤ (rF σ' 0 43) ∧ (rF σ' 0 43) ≤ 500 ∧ 0 ≤ (rF σ' 0 45) ∧ (rF σ' 0 45) ≤ 16000 ∧ 0 ≤ (rF σ' 0 44) ∧ (rF σ' 0 44) ≤ 4000 ∧ 0 ≤ (rF σ' 0 60) ∧ (rF σ' 0 60) ≤ 40 ∧ 0 ≤ (rF σ' 0 3) ∧ (rF σ' 0 3) ≤ 4000 ∧ VMp σ' ∧ KYp σ' ∧ PPp σ' ∧ WFp σ'
def VC_X14_byteOf (σ : rS) (x1 : Int) (Q : Int → rS → Prop) : Prop := ((x1 < 0 → Q (-1) (sF σ 0 0 0)) ∧ (¬ x1 < 0 → (rng (rF σ 0 70) → (((rF σ 0 70) ≤ x1 → Q (-1) (sF σ 0 0 0)) ∧ (¬ (rF σ 0 70) ≤ x1 → (0 ≤ x1 ∧ x1 < 12000) ∧ (rng (rA σ 1069 x1) → Q (f_iand (rA σ 1069 x1) 255) (sF σ 0 0 0)))))))
set_option maxHeartbeats 400000 in
theorem vX14_byteOf (σ : rS) (x1 : Int) (hwf : rWF σ) (hx1 : rng x1) (hp : pre_X14_byteOf σ x1) : VC_X14_byteOf σ x1 (post_X14_byteOf σ x1) := by
  simp only [VC_X14_byteOf, pre_X14_byteOf, post_X14_byteOf, rng, rfk, rNMp, rF_sF, rF_sA, rF_sL, rF_sR, rA_sA, rA_sF, rA_sL, rA_sR, rR_sF, rR_sA, rR_sL, rR_sR, reduceIte, and_true, true_and, and_false, false_and, and_self, VMp_sL, VMp_sF0, VMp_sF3, VMp_sF10, VMp_sF11, VMp_sF12, VMp_sF13, VMp_sF14, VMp_sF16, VMp_sF17, VMp_sF18, VMp_sF19, VMp_sF21, VMp_sF22, VMp_sF23, VMp_sF24, VMp_sF25, VMp_sF28, VMp_sF29, VMp_sF30, VMp_sF31, VMp_sF32, VMp_sF33, VMp_sF38, VMp_sF39, VMp_sF41, VMp_sF42, VMp_sF43, VMp_sF44, VMp_sF45, VMp_sF60, VMp_sF65, VMp_sF66, VMp_sF67, VMp_sF68, VMp_sF70, VMp_sF71, VMp_sF72, VMp_sF73, VMp_sF74, VMp_sF80, VMp_sF81, VMp_sF82, VMp_sF83, VMp_sF88, VMp_sF92, VMp_sF94, VMp_sF96, VMp_sF97, VMp_sF98, VMp_sF99, VMp_sF100, VMp_sF101, VMp_sF103, VMp_sF104, VMp_sF112, VMp_sF113, VMp_sF118, VMp_sF119, VMp_sF122, VMp_sF123, VMp_sF135, VMp_sF137, VMp_sA1, VMp_sA2, VMp_sA5, VMp_sA20, VMp_sA26, VMp_sA27, VMp_sA34, VMp_sA35, VMp_sA36, VMp_sA37, VMp_sA40, VMp_sA47, VMp_sA48, VMp_sA49, VMp_sA50, VMp_sA52, VMp_sA53, VMp_sA54, VMp_sA55, VMp_sA56, VMp_sA57, VMp_sA58, VMp_sA59, VMp_sA61, VMp_sA62, VMp_sA63, VMp_sA64, VMp_sA69, VMp_sA75, VMp_sA76, VMp_sA77, VMp_sA78, VMp_sA79, VMp_sA84, VMp_sA85, VMp_sA86, VMp_sA87, VMp_sA89, VMp_sA90, VMp_sA91, VMp_sA93, VMp_sA102, VMp_sA105, VMp_sA106, VMp_sA107, VMp_sA108, VMp_sA109, VMp_sA110, VMp_sA111, VMp_sA114, VMp_sA115, VMp_sA116, VMp_sA117, VMp_sA120, VMp_sA121, VMp_sA124, VMp_sA125, VMp_sA126, VMp_sA127, VMp_sA128, VMp_sA129, VMp_sA136, VMp_sA138, VMp_gA0, VMp_gA1, VMp_gA2, VMp_gA3, VMp_gA4, VMp_gA5, VMp_gA6, VMp_gA8, VMp_gA10, VMp_gA11, VMp_gA15, VMp_gA16, VMp_gA17, VMp_gA18, VMp_gA19, VMp_gA20, VMp_gA21, VMp_gA22, VMp_gA23, VMp_gA24, VMp_gA25, VMp_gA26, VMp_gA27, VMp_gA29, VMp_gA30, VMp_gA31, VMp_gA33, VMp_gA34, VMp_gA35, VMp_gA36, VMp_gA37, VMp_sF7, VMp_sF9, KYp_sL, KYp_sF0, KYp_sF3, KYp_sF10, KYp_sF11, KYp_sF12, KYp_sF13, KYp_sF14, KYp_sF16, KYp_sF17, KYp_sF18, KYp_sF19, KYp_sF21, KYp_sF22, KYp_sF23, KYp_sF24, KYp_sF25, KYp_sF28, KYp_sF29, KYp_sF30, KYp_sF31, KYp_sF32, KYp_sF33, KYp_sF38, KYp_sF39, KYp_sF41, KYp_sF42, KYp_sF43, KYp_sF44, KYp_sF45, KYp_sF60, KYp_sF65, KYp_sF66, KYp_sF67, KYp_sF68, KYp_sF70, KYp_sF71, KYp_sF72, KYp_sF73, KYp_sF74, KYp_sF80, KYp_sF81, KYp_sF82, KYp_sF83, KYp_sF88, KYp_sF92, KYp_sF94, KYp_sF96, KYp_sF97, KYp_sF98, KYp_sF99, KYp_sF100, KYp_sF101, KYp_sF103, KYp_sF104, KYp_sF112, KYp_sF113, KYp_sF118, KYp_sF119, KYp_sF122, KYp_sF123, KYp_sF135, KYp_sF137, KYp_sA1, KYp_sA2, KYp_sA5, KYp_sA20, KYp_sA26, KYp_sA27, KYp_sA34, KYp_sA35, KYp_sA36, KYp_sA37, KYp_sA40, KYp_sA46, KYp_sA47, KYp_sA48, KYp_sA49, KYp_sA50, KYp_sA51, KYp_sA52, KYp_sA55, KYp_sA56, KYp_sA57, KYp_sA58, KYp_sA59, KYp_sA61, KYp_sA62, KYp_sA63, KYp_sA64, KYp_sA69, KYp_sA75, KYp_sA76, KYp_sA77, KYp_sA78, KYp_sA79, KYp_sA84, KYp_sA85, KYp_sA86, KYp_sA87, KYp_sA89, KYp_sA90, KYp_sA91, KYp_sA93, KYp_sA102, KYp_sA105, KYp_sA106, KYp_sA107, KYp_sA108, KYp_sA109, KYp_sA110, KYp_sA111, KYp_sA114, KYp_sA115, KYp_sA116, KYp_sA117, KYp_sA120, KYp_sA121, KYp_sA124, KYp_sA125, KYp_sA126, KYp_sA127, KYp_sA128, KYp_sA129, KYp_sA136, KYp_sA138, KYp_gA0, KYp_gA1, KYp_gA2, KYp_gA3, KYp_gA4, KYp_gA5, KYp_gA6, KYp_gA8, KYp_gA10, KYp_gA11, KYp_gA15, KYp_gA16, KYp_gA17, KYp_gA18, KYp_gA19, KYp_gA20, KYp_gA21, KYp_gA22, KYp_gA23, KYp_gA24, KYp_gA25, KYp_gA26, KYp_gA27, KYp_gA29, KYp_gA30, KYp_gA31, KYp_gA33, KYp_gA34, KYp_gA35, KYp_gA36, KYp_gA37, KYp_sF7, KYp_sF9, PPp_sL, PPp_sF0, PPp_sF3, PPp_sF10, PPp_sF11, PPp_sF12, PPp_sF13, PPp_sF14, PPp_sF16, PPp_sF17, PPp_sF18, PPp_sF19, PPp_sF21, PPp_sF22, PPp_sF23, PPp_sF24, PPp_sF25, PPp_sF28, PPp_sF29, PPp_sF30, PPp_sF31, PPp_sF32, PPp_sF33, PPp_sF38, PPp_sF39, PPp_sF41, PPp_sF42, PPp_sF43, PPp_sF44, PPp_sF45, PPp_sF60, PPp_sF65, PPp_sF66, PPp_sF67, PPp_sF68, PPp_sF70, PPp_sF71, PPp_sF72, PPp_sF73, PPp_sF74, PPp_sF80, PPp_sF81, PPp_sF82, PPp_sF83, PPp_sF88, PPp_sF92, PPp_sF94, PPp_sF96, PPp_sF97, PPp_sF98, PPp_sF99, PPp_sF100, PPp_sF101, PPp_sF103, PPp_sF104, PPp_sF112, PPp_sF113, PPp_sF118, PPp_sF119, PPp_sF122, PPp_sF123, PPp_sF135, PPp_sF137, PPp_sA1, PPp_sA2, PPp_sA5, PPp_sA20, PPp_sA26, PPp_sA27, PPp_sA34, PPp_sA35, PPp_sA36, PPp_sA37, PPp_sA40, PPp_sA46, PPp_sA47, PPp_sA48, PPp_sA49, PPp_sA50, PPp_sA51, PPp_sA52, PPp_sA53, PPp_sA54, PPp_sA55, PPp_sA58, PPp_sA59, PPp_sA61, PPp_sA62, PPp_sA63, PPp_sA64, PPp_sA69, PPp_sA75, PPp_sA76, PPp_sA77, PPp_sA78, PPp_sA79, PPp_sA84, PPp_sA85, PPp_sA86, PPp_sA87, PPp_sA89, PPp_sA90, PPp_sA91, PPp_sA93, PPp_sA102, PPp_sA105, PPp_sA106, PPp_sA107, PPp_sA108, PPp_sA109, PPp_sA110, PPp_sA111, PPp_sA114, PPp_sA115, PPp_sA116, PPp_sA117, PPp_sA120, PPp_sA121, PPp_sA124, PPp_sA125, PPp_sA126, PPp_sA127, PPp_sA128, PPp_sA129, PPp_sA136, PPp_sA138, PPp_gA0, PPp_gA1, PPp_gA2, PPp_gA3, PPp_gA4, PPp_gA5, PPp_gA6, PPp_gA8, PPp_gA10, PPp_gA11, PPp_gA15, PPp_gA16, PPp_gA17, PPp_gA18, PPp_gA19, PPp_gA20, PPp_gA21, PPp_gA22, PPp_gA23, PPp_gA24, PPp_gA25, PPp_gA26, PPp_gA27, PPp_gA29, PPp_gA30, PPp_gA31, PPp_gA33, PPp_gA34, PPp_gA35, PPp_gA36, PPp_gA37, PPp_sF7, PPp_sF9, WFp_sL, WFp_sF0, WFp_sF3, WFp_sF10, WFp_sF11, WFp_sF12, WFp_sF13, WFp_sF14, WFp_sF16, WFp_sF17, WFp_sF18, WFp_sF19, WFp_sF21, WFp_sF22, WFp_sF23, WFp_sF24, WFp_sF25, WFp_sF28, WFp_sF29, WFp_sF30, WFp_sF31, WFp_sF32, WFp_sF33, WFp_sF38, WFp_sF39, WFp_sF41, WFp_sF42, WFp_sF43, WFp_sF44, WFp_sF45, WFp_sF60, WFp_sF65, WFp_sF66, WFp_sF67, WFp_sF68, WFp_sF70, WFp_sF71, WFp_sF72, WFp_sF73, WFp_sF74, WFp_sF80, WFp_sF81, WFp_sF82, WFp_sF83, WFp_sF88, WFp_sF92, WFp_sF94, WFp_sF96, WFp_sF97, WFp_sF98, WFp_sF99, WFp_sF100, WFp_sF101, WFp_sF103, WFp_sF104, WFp_sF112, WFp_sF113, WFp_sF118, WFp_sF119, WFp_sF122, WFp_sF123, WFp_sF135, WFp_sF137, WFp_sA1, WFp_sA2, WFp_sA5, WFp_sA20, WFp_sA26, WFp_sA27, WFp_sA34, WFp_sA35, WFp_sA36, WFp_sA37, WFp_sA40, WFp_sA46, WFp_sA47, WFp_sA48, WFp_sA51, WFp_sA52, WFp_sA53, WFp_sA54, WFp_sA55, WFp_sA56, WFp_sA57, WFp_sA58, WFp_sA59, WFp_sA61, WFp_sA62, WFp_sA63, WFp_sA64, WFp_sA69, WFp_sA75, WFp_sA76, WFp_sA77, WFp_sA78, WFp_sA79, WFp_sA84, WFp_sA85, WFp_sA86, WFp_sA87, WFp_sA89, WFp_sA90, WFp_sA91, WFp_sA93, WFp_sA102, WFp_sA105, WFp_sA106, WFp_sA107, WFp_sA108, WFp_sA109, WFp_sA110, WFp_sA111, WFp_sA114, WFp_sA115, WFp_sA116, WFp_sA117, WFp_sA120, WFp_sA121, WFp_sA124, WFp_sA125, WFp_sA126, WFp_sA127, WFp_sA128, WFp_sA129, WFp_sA136, WFp_sA138, WFp_gA0, WFp_gA1, WFp_gA2, WFp_gA3, WFp_gA4, WFp_gA5, WFp_gA6, WFp_gA8, WFp_gA10, WFp_gA11, WFp_gA15, WFp_gA16, WFp_gA17, WFp_gA18, WFp_gA19, WFp_gA20, WFp_gA21, WFp_gA22, WFp_gA23, WFp_gA24, WFp_gA25, WFp_gA26, WFp_gA27, WFp_gA29, WFp_gA30, WFp_gA31, WFp_gA33, WFp_gA34, WFp_gA35, WFp_gA36, WFp_gA37, WFp_sF7, WFp_sF9] at *
  (repeat' (first | with_reducible intro _ | with_reducible apply And.intro))
  all_goals (first | assumption | omega | grind (splits := 20) [rNM_sF0])
theorem wX14_byteOf (l : Launch) (G : zG) (κ : Nat → Nat) (σ : rS) (x1 : Int) (hwf : rWF σ) (hx1 : rng x1) (Q : Int → rS → Prop) (h : VC_X14_byteOf σ x1 Q) : rMi l G κ yX14_byteOf cX14_byteOf 2 .int 1 0 [.ref (κ 0), iv x1] σ (fun x s => rKeep 0x1 0 0 0 0 σ s ∧ Q x s) := by
  refine zMi.intro (by decide +kernel) (Nat.le_of_ble_eq_true rfl) (fun X hC hR => ?_)
  refine z_aload_n hC (pc := 0) 0 dX14_byteOf_0 rfl rfl ?_
  refine z_iconst hC (pc := 1) (v := Int32.ofInt 0) dX14_byteOf_1 (by decide) ?_
  refine y_putI hC (pc := 2) zf14 rOb_0 0 (x := 0) dX14_byteOf_2 zw2468 (Or.inl rfl) rfl rfl (kk := ?_)
  have W10 := hwf.sF (q := 0) (f := 0) (x := 0) (r_lit rfl)
  refine z_iload_n hC (pc := 5) 1 dX14_byteOf_5 rfl rfl ?_
  obtain ⟨hT, hF⟩ := h
  refine y_if_lt hC (pc := 6) 30 hx1 dX14_byteOf_6 (by decide) (fun c => ?_) (fun c => ?_)
  · have h := hT c
    refine z_iconst hC (pc := 30) (v := Int32.ofInt (-1)) dX14_byteOf_30 (by decide) ?_
    exact y_reti hR dX14_byteOf_31 rfl (r_lit rfl) W10 (Nat.le_of_ble_eq_true rfl) (Nat.le_of_ble_eq_true rfl) ⟨(rKeep.tr rKeep.rf (rKeep.sF0 (f := 0)) rfl rfl rfl rfl rfl), h⟩
  · have h := hF c
    refine z_iload_n hC (pc := 9) 1 dX14_byteOf_9 rfl rfl ?_
    refine z_aload_n hC (pc := 10) 0 dX14_byteOf_10 rfl rfl ?_
    refine y_get hC (pc := 11) zf14 rOb_0 70 (v := iv (rF σ 0 70)) dX14_byteOf_11 zw2537 (rv_i (Or.inl rfl) ((F_sF_ne (by decide)).trans rfl)) (kk := ?_)
    have h := h (hwf.f _ _)
    obtain ⟨hT, hF⟩ := h
    refine y_icmp_ge hC (pc := 14) 30 hx1 (hwf.f _ _) dX14_byteOf_14 (by decide) (fun c => ?_) (fun c => ?_)
    · have h := hT c
      refine z_iconst hC (pc := 30) (v := Int32.ofInt (-1)) dX14_byteOf_30 (by decide) ?_
      exact y_reti hR dX14_byteOf_31 rfl (r_lit rfl) W10 (Nat.le_of_ble_eq_true rfl) (Nat.le_of_ble_eq_true rfl) ⟨(rKeep.tr rKeep.rf (rKeep.sF0 (f := 0)) rfl rfl rfl rfl rfl), h⟩
    · have h := hF c
      refine z_aload_n hC (pc := 17) 0 dX14_byteOf_17 rfl rfl ?_
      refine y_get hC (pc := 18) zf14 rOb_0 69 (v := .ref (κ 1069)) dX14_byteOf_18 zw2536 (rv_c rfl) (kk := ?_)
      refine z_iload_n hC (pc := 21) 1 dX14_byteOf_21 rfl rfl ?_
      obtain ⟨b11, h⟩ := h
      refine y_bald hC (pc := 22) (rAr_m rfl) dX14_byteOf_22 b11 (v := (rA σ 1069 x1)) rfl (kk := ?_)
      have h := h (hwf.a _ _)
      refine z_sipush hC (pc := 23) (v := Int32.ofInt 255) dX14_byteOf_23 (by decide) ?_
      refine y_iand hC (pc := 26) dX14_byteOf_26 ?_
      refine z_goto hC (pc := 27) 31 dX14_byteOf_27 (by decide) ?_
      exact y_reti hR dX14_byteOf_31 rfl (f_iand_rng _ _) W10 (Nat.le_of_ble_eq_true rfl) (Nat.le_of_ble_eq_true rfl) ⟨(rKeep.tr rKeep.rf (rKeep.sF0 (f := 0)) rfl rfl rfl rfl rfl), h⟩
theorem kX14_byteOf (l : Launch) (G : zG) (κ : Nat → Nat) (σ : rS) (x1 : Int) (hwf : rWF σ) (hx1 : rng x1) (hp : pre_X14_byteOf σ x1) : rMi l G κ yX14_byteOf cX14_byteOf 2 .int 1 0 [.ref (κ 0), iv x1] σ (fun x s => rKeep 0x1 0 0 0 0 σ s ∧ post_X14_byteOf σ x1 x s) := wX14_byteOf l G κ σ x1 hwf hx1 (post_X14_byteOf σ x1) (vX14_byteOf σ x1 hwf hx1 hp) 
def pre_X14_error (σ : rS) (x1 : Int) (x2 : Int) : Prop := 0 ≤ (rF σ 0 43) ∧ (rF σ 0 43) ≤ 500 ∧ 0 ≤ (rF σ 0 45) ∧ (rF σ 0 45) ≤ 16000 ∧ 0 ≤ (rF σ 0 44) ∧ (rF σ 0 44) ≤ 4000 ∧ 0 ≤ (rF σ 0 60) ∧ (rF σ 0 60) ≤ 40 ∧ 0 ≤ (rF σ 0 3) ∧ (rF σ 0 3) ≤ 4000 ∧ VMp σ ∧ KYp σ ∧ PPp σ ∧ WFp σ
def post_X14_error (σ : rS) (x1 : Int) (x2 : Int) (r : Int) (σ' : rS) : Prop := 0 ≤ (rF σ' 0 43) ∧ (rF σ' 0 43) ≤ 500 ∧ 0 ≤ (rF σ' 0 45) ∧ (rF σ' 0 45) ≤ 16000 ∧ 0 ≤ (rF σ' 0 44) ∧ (rF σ' 0 44) ≤ 4000 ∧ 0 ≤ (rF σ' 0 60) ∧ (rF σ' 0 60) ≤ 40 ∧ 0 ≤ (rF σ' 0 3) ∧ (rF σ' 0 3) ≤ 4000 ∧ VMp σ' ∧ KYp σ' ∧ PPp σ' ∧ WFp σ'
def VC_X14_error (σ : rS) (x1 : Int) (x2 : Int) (Q : Int → rS → Prop) : Prop := ((x1 < 0 → Q (-1) (sF σ 0 0 0)) ∧ (¬ x1 < 0 → (rng (rF σ 0 73) → (((rF σ 0 73) ≤ x1 → Q (-1) (sF σ 0 0 0)) ∧ (¬ (rF σ 0 73) ≤ x1 → ((400 ≤ x1 → Q (-1) (sF σ 0 0 0)) ∧ (¬ 400 ≤ x1 → ((x2 < 0 → Q (-1) (sF σ 0 0 0)) ∧ (¬ x2 < 0 → ((x2 ≤ 2 → ((¬ x2 = 0 → ((¬ x2 = 1 → (0 ≤ x1 ∧ x1 < 400) ∧ (rng (rA σ 1077 x1) → Q (rA σ 1077 x1) (sF σ 0 0 0))) ∧ (x2 = 1 → (0 ≤ x1 ∧ x1 < 400) ∧ (rng (rA σ 1076 x1) → Q (rA σ 1076 x1) (sF σ 0 0 0))))) ∧ (x2 = 0 → (0 ≤ x1 ∧ x1 < 400) ∧ (rng (rA σ 1075 x1) → Q (rA σ 1075 x1) (sF σ 0 0 0))))) ∧ (¬ x2 ≤ 2 → Q (-1) (sF σ 0 0 0))))))))))))
set_option maxHeartbeats 400000 in
theorem vX14_error (σ : rS) (x1 : Int) (x2 : Int) (hwf : rWF σ) (hx1 : rng x1) (hx2 : rng x2) (hp : pre_X14_error σ x1 x2) : VC_X14_error σ x1 x2 (post_X14_error σ x1 x2) := by
  simp only [VC_X14_error, pre_X14_error, post_X14_error, rng, rfk, rNMp, rF_sF, rF_sA, rF_sL, rF_sR, rA_sA, rA_sF, rA_sL, rA_sR, rR_sF, rR_sA, rR_sL, rR_sR, reduceIte, and_true, true_and, and_false, false_and, and_self, VMp_sL, VMp_sF0, VMp_sF3, VMp_sF10, VMp_sF11, VMp_sF12, VMp_sF13, VMp_sF14, VMp_sF16, VMp_sF17, VMp_sF18, VMp_sF19, VMp_sF21, VMp_sF22, VMp_sF23, VMp_sF24, VMp_sF25, VMp_sF28, VMp_sF29, VMp_sF30, VMp_sF31, VMp_sF32, VMp_sF33, VMp_sF38, VMp_sF39, VMp_sF41, VMp_sF42, VMp_sF43, VMp_sF44, VMp_sF45, VMp_sF60, VMp_sF65, VMp_sF66, VMp_sF67, VMp_sF68, VMp_sF70, VMp_sF71, VMp_sF72, VMp_sF73, VMp_sF74, VMp_sF80, VMp_sF81, VMp_sF82, VMp_sF83, VMp_sF88, VMp_sF92, VMp_sF94, VMp_sF96, VMp_sF97, VMp_sF98, VMp_sF99, VMp_sF100, VMp_sF101, VMp_sF103, VMp_sF104, VMp_sF112, VMp_sF113, VMp_sF118, VMp_sF119, VMp_sF122, VMp_sF123, VMp_sF135, VMp_sF137, VMp_sA1, VMp_sA2, VMp_sA5, VMp_sA20, VMp_sA26, VMp_sA27, VMp_sA34, VMp_sA35, VMp_sA36, VMp_sA37, VMp_sA40, VMp_sA47, VMp_sA48, VMp_sA49, VMp_sA50, VMp_sA52, VMp_sA53, VMp_sA54, VMp_sA55, VMp_sA56, VMp_sA57, VMp_sA58, VMp_sA59, VMp_sA61, VMp_sA62, VMp_sA63, VMp_sA64, VMp_sA69, VMp_sA75, VMp_sA76, VMp_sA77, VMp_sA78, VMp_sA79, VMp_sA84, VMp_sA85, VMp_sA86, VMp_sA87, VMp_sA89, VMp_sA90, VMp_sA91, VMp_sA93, VMp_sA102, VMp_sA105, VMp_sA106, VMp_sA107, VMp_sA108, VMp_sA109, VMp_sA110, VMp_sA111, VMp_sA114, VMp_sA115, VMp_sA116, VMp_sA117, VMp_sA120, VMp_sA121, VMp_sA124, VMp_sA125, VMp_sA126, VMp_sA127, VMp_sA128, VMp_sA129, VMp_sA136, VMp_sA138, VMp_gA0, VMp_gA1, VMp_gA2, VMp_gA3, VMp_gA4, VMp_gA5, VMp_gA6, VMp_gA8, VMp_gA10, VMp_gA11, VMp_gA15, VMp_gA16, VMp_gA17, VMp_gA18, VMp_gA19, VMp_gA20, VMp_gA21, VMp_gA22, VMp_gA23, VMp_gA24, VMp_gA25, VMp_gA26, VMp_gA27, VMp_gA29, VMp_gA30, VMp_gA31, VMp_gA33, VMp_gA34, VMp_gA35, VMp_gA36, VMp_gA37, VMp_sF7, VMp_sF9, KYp_sL, KYp_sF0, KYp_sF3, KYp_sF10, KYp_sF11, KYp_sF12, KYp_sF13, KYp_sF14, KYp_sF16, KYp_sF17, KYp_sF18, KYp_sF19, KYp_sF21, KYp_sF22, KYp_sF23, KYp_sF24, KYp_sF25, KYp_sF28, KYp_sF29, KYp_sF30, KYp_sF31, KYp_sF32, KYp_sF33, KYp_sF38, KYp_sF39, KYp_sF41, KYp_sF42, KYp_sF43, KYp_sF44, KYp_sF45, KYp_sF60, KYp_sF65, KYp_sF66, KYp_sF67, KYp_sF68, KYp_sF70, KYp_sF71, KYp_sF72, KYp_sF73, KYp_sF74, KYp_sF80, KYp_sF81, KYp_sF82, KYp_sF83, KYp_sF88, KYp_sF92, KYp_sF94, KYp_sF96, KYp_sF97, KYp_sF98, KYp_sF99, KYp_sF100, KYp_sF101, KYp_sF103, KYp_sF104, KYp_sF112, KYp_sF113, KYp_sF118, KYp_sF119, KYp_sF122, KYp_sF123, KYp_sF135, KYp_sF137, KYp_sA1, KYp_sA2, KYp_sA5, KYp_sA20, KYp_sA26, KYp_sA27, KYp_sA34, KYp_sA35, KYp_sA36, KYp_sA37, KYp_sA40, KYp_sA46, KYp_sA47, KYp_sA48, KYp_sA49, KYp_sA50, KYp_sA51, KYp_sA52, KYp_sA55, KYp_sA56, KYp_sA57, KYp_sA58, KYp_sA59, KYp_sA61, KYp_sA62, KYp_sA63, KYp_sA64, KYp_sA69, KYp_sA75, KYp_sA76, KYp_sA77, KYp_sA78, KYp_sA79, KYp_sA84, KYp_sA85, KYp_sA86, KYp_sA87, KYp_sA89, KYp_sA90, KYp_sA91, KYp_sA93, KYp_sA102, KYp_sA105, KYp_sA106, KYp_sA107, KYp_sA108, KYp_sA109, KYp_sA110, KYp_sA111, KYp_sA114, KYp_sA115, KYp_sA116, KYp_sA117, KYp_sA120, KYp_sA121, KYp_sA124, KYp_sA125, KYp_sA126, KYp_sA127, KYp_sA128, KYp_sA129, KYp_sA136, KYp_sA138, KYp_gA0, KYp_gA1, KYp_gA2, KYp_gA3, KYp_gA4, KYp_gA5, KYp_gA6, KYp_gA8, KYp_gA10, KYp_gA11, KYp_gA15, KYp_gA16, KYp_gA17, KYp_gA18, KYp_gA19, KYp_gA20, KYp_gA21, KYp_gA22, KYp_gA23, KYp_gA24, KYp_gA25, KYp_gA26, KYp_gA27, KYp_gA29, KYp_gA30, KYp_gA31, KYp_gA33, KYp_gA34, KYp_gA35, KYp_gA36, KYp_gA37, KYp_sF7, KYp_sF9, PPp_sL, PPp_sF0, PPp_sF3, PPp_sF10, PPp_sF11, PPp_sF12, PPp_sF13, PPp_sF14, PPp_sF16, PPp_sF17, PPp_sF18, PPp_sF19, PPp_sF21, PPp_sF22, PPp_sF23, PPp_sF24, PPp_sF25, PPp_sF28, PPp_sF29, PPp_sF30, PPp_sF31, PPp_sF32, PPp_sF33, PPp_sF38, PPp_sF39, PPp_sF41, PPp_sF42, PPp_sF43, PPp_sF44, PPp_sF45, PPp_sF60, PPp_sF65, PPp_sF66, PPp_sF67, PPp_sF68, PPp_sF70, PPp_sF71, PPp_sF72, PPp_sF73, PPp_sF74, PPp_sF80, PPp_sF81, PPp_sF82, PPp_sF83, PPp_sF88, PPp_sF92, PPp_sF94, PPp_sF96, PPp_sF97, PPp_sF98, PPp_sF99, PPp_sF100, PPp_sF101, PPp_sF103, PPp_sF104, PPp_sF112, PPp_sF113, PPp_sF118, PPp_sF119, PPp_sF122, PPp_sF123, PPp_sF135, PPp_sF137, PPp_sA1, PPp_sA2, PPp_sA5, PPp_sA20, PPp_sA26, PPp_sA27, PPp_sA34, PPp_sA35, PPp_sA36, PPp_sA37, PPp_sA40, PPp_sA46, PPp_sA47, PPp_sA48, PPp_sA49, PPp_sA50, PPp_sA51, PPp_sA52, PPp_sA53, PPp_sA54, PPp_sA55, PPp_sA58, PPp_sA59, PPp_sA61, PPp_sA62, PPp_sA63, PPp_sA64, PPp_sA69, PPp_sA75, PPp_sA76, PPp_sA77, PPp_sA78, PPp_sA79, PPp_sA84, PPp_sA85, PPp_sA86, PPp_sA87, PPp_sA89, PPp_sA90, PPp_sA91, PPp_sA93, PPp_sA102, PPp_sA105, PPp_sA106, PPp_sA107, PPp_sA108, PPp_sA109, PPp_sA110, PPp_sA111, PPp_sA114, PPp_sA115, PPp_sA116, PPp_sA117, PPp_sA120, PPp_sA121, PPp_sA124, PPp_sA125, PPp_sA126, PPp_sA127, PPp_sA128, PPp_sA129, PPp_sA136, PPp_sA138, PPp_gA0, PPp_gA1, PPp_gA2, PPp_gA3, PPp_gA4, PPp_gA5, PPp_gA6, PPp_gA8, PPp_gA10, PPp_gA11, PPp_gA15, PPp_gA16, PPp_gA17, PPp_gA18, PPp_gA19, PPp_gA20, PPp_gA21, PPp_gA22, PPp_gA23, PPp_gA24, PPp_gA25, PPp_gA26, PPp_gA27, PPp_gA29, PPp_gA30, PPp_gA31, PPp_gA33, PPp_gA34, PPp_gA35, PPp_gA36, PPp_gA37, PPp_sF7, PPp_sF9, WFp_sL, WFp_sF0, WFp_sF3, WFp_sF10, WFp_sF11, WFp_sF12, WFp_sF13, WFp_sF14, WFp_sF16, WFp_sF17, WFp_sF18, WFp_sF19, WFp_sF21, WFp_sF22, WFp_sF23, WFp_sF24, WFp_sF25, WFp_sF28, WFp_sF29, WFp_sF30, WFp_sF31, WFp_sF32, WFp_sF33, WFp_sF38, WFp_sF39, WFp_sF41, WFp_sF42, WFp_sF43, WFp_sF44, WFp_sF45, WFp_sF60, WFp_sF65, WFp_sF66, WFp_sF67, WFp_sF68, WFp_sF70, WFp_sF71, WFp_sF72, WFp_sF73, WFp_sF74, WFp_sF80, WFp_sF81, WFp_sF82, WFp_sF83, WFp_sF88, WFp_sF92, WFp_sF94, WFp_sF96, WFp_sF97, WFp_sF98, WFp_sF99, WFp_sF100, WFp_sF101, WFp_sF103, WFp_sF104, WFp_sF112, WFp_sF113, WFp_sF118, WFp_sF119, WFp_sF122, WFp_sF123, WFp_sF135, WFp_sF137, WFp_sA1, WFp_sA2, WFp_sA5, WFp_sA20, WFp_sA26, WFp_sA27, WFp_sA34, WFp_sA35, WFp_sA36, WFp_sA37, WFp_sA40, WFp_sA46, WFp_sA47, WFp_sA48, WFp_sA51, WFp_sA52, WFp_sA53, WFp_sA54, WFp_sA55, WFp_sA56, WFp_sA57, WFp_sA58, WFp_sA59, WFp_sA61, WFp_sA62, WFp_sA63, WFp_sA64, WFp_sA69, WFp_sA75, WFp_sA76, WFp_sA77, WFp_sA78, WFp_sA79, WFp_sA84, WFp_sA85, WFp_sA86, WFp_sA87, WFp_sA89, WFp_sA90, WFp_sA91, WFp_sA93, WFp_sA102, WFp_sA105, WFp_sA106, WFp_sA107, WFp_sA108, WFp_sA109, WFp_sA110, WFp_sA111, WFp_sA114, WFp_sA115, WFp_sA116, WFp_sA117, WFp_sA120, WFp_sA121, WFp_sA124, WFp_sA125, WFp_sA126, WFp_sA127, WFp_sA128, WFp_sA129, WFp_sA136, WFp_sA138, WFp_gA0, WFp_gA1, WFp_gA2, WFp_gA3, WFp_gA4, WFp_gA5, WFp_gA6, WFp_gA8, WFp_gA10, WFp_gA11, WFp_gA15, WFp_gA16, WFp_gA17, WFp_gA18, WFp_gA19, WFp_gA20, WFp_gA21, WFp_gA22, WFp_gA23, WFp_gA24, WFp_gA25, WFp_gA26, WFp_gA27, WFp_gA29, WFp_gA30, WFp_gA31, WFp_gA33, WFp_gA34, WFp_gA35, WFp_gA36, WFp_gA37, WFp_sF7, WFp_sF9] at *
  (repeat' (first | with_reducible intro _ | with_reducible apply And.intro))
  all_goals (first | assumption | omega | grind (splits := 20) [rNM_sF0])
theorem wX14_error (l : Launch) (G : zG) (κ : Nat → Nat) (σ : rS) (x1 : Int) (x2 : Int) (hwf : rWF σ) (hx1 : rng x1) (hx2 : rng x2) (Q : Int → rS → Prop) (h : VC_X14_error σ x1 x2 Q) : rMi l G κ yX14_error cX14_error 3 .int 1 0 [.ref (κ 0), iv x1, iv x2] σ (fun x s => rKeep 0x1 0 0 0 0 σ s ∧ Q x s) := by
  refine zMi.intro (by decide +kernel) (Nat.le_of_ble_eq_true rfl) (fun X hC hR => ?_)
  refine z_aload_n hC (pc := 0) 0 dX14_error_0 rfl rfl ?_
  refine z_iconst hC (pc := 1) (v := Int32.ofInt 0) dX14_error_1 (by decide) ?_
  refine y_putI hC (pc := 2) zf14 rOb_0 0 (x := 0) dX14_error_2 zw2468 (Or.inl rfl) rfl rfl (kk := ?_)
  have W10 := hwf.sF (q := 0) (f := 0) (x := 0) (r_lit rfl)
  refine z_iload_n hC (pc := 5) 1 dX14_error_5 rfl rfl ?_
  obtain ⟨hT, hF⟩ := h
  refine y_if_lt hC (pc := 6) 33 hx1 dX14_error_6 (by decide) (fun c => ?_) (fun c => ?_)
  · have h := hT c
    refine z_iconst hC (pc := 33) (v := Int32.ofInt (-1)) dX14_error_33 (by decide) ?_
    exact y_reti hR dX14_error_34 rfl (r_lit rfl) W10 (Nat.le_of_ble_eq_true rfl) (Nat.le_of_ble_eq_true rfl) ⟨(rKeep.tr rKeep.rf (rKeep.sF0 (f := 0)) rfl rfl rfl rfl rfl), h⟩
  · have h := hF c
    refine z_iload_n hC (pc := 9) 1 dX14_error_9 rfl rfl ?_
    refine z_aload_n hC (pc := 10) 0 dX14_error_10 rfl rfl ?_
    refine y_get hC (pc := 11) zf14 rOb_0 73 (v := iv (rF σ 0 73)) dX14_error_11 zw2540 (rv_i (Or.inl rfl) ((F_sF_ne (by decide)).trans rfl)) (kk := ?_)
    have h := h (hwf.f _ _)
    obtain ⟨hT, hF⟩ := h
    refine y_icmp_ge hC (pc := 14) 33 hx1 (hwf.f _ _) dX14_error_14 (by decide) (fun c => ?_) (fun c => ?_)
    · have h := hT c
      refine z_iconst hC (pc := 33) (v := Int32.ofInt (-1)) dX14_error_33 (by decide) ?_
      exact y_reti hR dX14_error_34 rfl (r_lit rfl) W10 (Nat.le_of_ble_eq_true rfl) (Nat.le_of_ble_eq_true rfl) ⟨(rKeep.tr rKeep.rf (rKeep.sF0 (f := 0)) rfl rfl rfl rfl rfl), h⟩
    · have h := hF c
      refine z_iload_n hC (pc := 17) 1 dX14_error_17 rfl rfl ?_
      refine z_sipush hC (pc := 18) (v := Int32.ofInt 400) dX14_error_18 (by decide) ?_
      obtain ⟨hT, hF⟩ := h
      refine y_icmp_ge hC (pc := 21) 33 hx1 (r_lit rfl) dX14_error_21 (by decide) (fun c => ?_) (fun c => ?_)
      · have h := hT c
        refine z_iconst hC (pc := 33) (v := Int32.ofInt (-1)) dX14_error_33 (by decide) ?_
        exact y_reti hR dX14_error_34 rfl (r_lit rfl) W10 (Nat.le_of_ble_eq_true rfl) (Nat.le_of_ble_eq_true rfl) ⟨(rKeep.tr rKeep.rf (rKeep.sF0 (f := 0)) rfl rfl rfl rfl rfl), h⟩
      · have h := hF c
        refine z_iload_n hC (pc := 24) 2 dX14_error_24 rfl rfl ?_
        obtain ⟨hT, hF⟩ := h
        refine y_if_lt hC (pc := 25) 33 hx2 dX14_error_25 (by decide) (fun c => ?_) (fun c => ?_)
        · have h := hT c
          refine z_iconst hC (pc := 33) (v := Int32.ofInt (-1)) dX14_error_33 (by decide) ?_
          exact y_reti hR dX14_error_34 rfl (r_lit rfl) W10 (Nat.le_of_ble_eq_true rfl) (Nat.le_of_ble_eq_true rfl) ⟨(rKeep.tr rKeep.rf (rKeep.sF0 (f := 0)) rfl rfl rfl rfl rfl), h⟩
        · have h := hF c
          refine z_iload_n hC (pc := 28) 2 dX14_error_28 rfl rfl ?_
          refine z_iconst hC (pc := 29) (v := Int32.ofInt 2) dX14_error_29 (by decide) ?_
          obtain ⟨hT, hF⟩ := h
          refine y_icmp_le hC (pc := 30) 35 hx2 (r_lit rfl) dX14_error_30 (by decide) (fun c => ?_) (fun c => ?_)
          · have h := hT c
            refine z_iload_n hC (pc := 35) 2 dX14_error_35 rfl rfl ?_
            obtain ⟨hT, hF⟩ := h
            refine y_if_ne hC (pc := 36) 48 hx2 dX14_error_36 (by decide) (fun c => ?_) (fun c => ?_)
            · have h := hT c
              refine z_iload_n hC (pc := 48) 2 dX14_error_48 rfl rfl ?_
              refine z_iconst hC (pc := 49) (v := Int32.ofInt 1) dX14_error_49 (by decide) ?_
              obtain ⟨hT, hF⟩ := h
              refine y_icmp_ne hC (pc := 50) 62 hx2 (r_lit rfl) dX14_error_50 (by decide) (fun c => ?_) (fun c => ?_)
              · have h := hT c
                refine z_aload_n hC (pc := 62) 0 dX14_error_62 rfl rfl ?_
                refine y_get hC (pc := 63) zf14 rOb_0 77 (v := .ref (κ 1077)) dX14_error_63 zw2544 (rv_c rfl) (kk := ?_)
                refine z_iload_n hC (pc := 66) 1 dX14_error_66 rfl rfl ?_
                obtain ⟨b11, h⟩ := h
                refine y_iald hC (pc := 67) (rAr_m rfl) dX14_error_67 b11 (v := (rA σ 1077 x1)) rfl (kk := ?_)
                have h := h (hwf.a _ _)
                exact y_reti hR dX14_error_68 rfl (hwf.a _ _) W10 (Nat.le_of_ble_eq_true rfl) (Nat.le_of_ble_eq_true rfl) ⟨(rKeep.tr rKeep.rf (rKeep.sF0 (f := 0)) rfl rfl rfl rfl rfl), h⟩
              · have h := hF c
                refine z_aload_n hC (pc := 53) 0 dX14_error_53 rfl rfl ?_
                refine y_get hC (pc := 54) zf14 rOb_0 76 (v := .ref (κ 1076)) dX14_error_54 zw2543 (rv_c rfl) (kk := ?_)
                refine z_iload_n hC (pc := 57) 1 dX14_error_57 rfl rfl ?_
                obtain ⟨b12, h⟩ := h
                refine y_iald hC (pc := 58) (rAr_m rfl) dX14_error_58 b12 (v := (rA σ 1076 x1)) rfl (kk := ?_)
                have h := h (hwf.a _ _)
                refine z_goto hC (pc := 59) 68 dX14_error_59 (by decide) ?_
                exact y_reti hR dX14_error_68 rfl (hwf.a _ _) W10 (Nat.le_of_ble_eq_true rfl) (Nat.le_of_ble_eq_true rfl) ⟨(rKeep.tr rKeep.rf (rKeep.sF0 (f := 0)) rfl rfl rfl rfl rfl), h⟩
            · have h := hF c
              refine z_aload_n hC (pc := 39) 0 dX14_error_39 rfl rfl ?_
              refine y_get hC (pc := 40) zf14 rOb_0 75 (v := .ref (κ 1075)) dX14_error_40 zw2542 (rv_c rfl) (kk := ?_)
              refine z_iload_n hC (pc := 43) 1 dX14_error_43 rfl rfl ?_
              obtain ⟨b13, h⟩ := h
              refine y_iald hC (pc := 44) (rAr_m rfl) dX14_error_44 b13 (v := (rA σ 1075 x1)) rfl (kk := ?_)
              have h := h (hwf.a _ _)
              refine z_goto hC (pc := 45) 68 dX14_error_45 (by decide) ?_
              exact y_reti hR dX14_error_68 rfl (hwf.a _ _) W10 (Nat.le_of_ble_eq_true rfl) (Nat.le_of_ble_eq_true rfl) ⟨(rKeep.tr rKeep.rf (rKeep.sF0 (f := 0)) rfl rfl rfl rfl rfl), h⟩
          · have h := hF c
            refine z_iconst hC (pc := 33) (v := Int32.ofInt (-1)) dX14_error_33 (by decide) ?_
            exact y_reti hR dX14_error_34 rfl (r_lit rfl) W10 (Nat.le_of_ble_eq_true rfl) (Nat.le_of_ble_eq_true rfl) ⟨(rKeep.tr rKeep.rf (rKeep.sF0 (f := 0)) rfl rfl rfl rfl rfl), h⟩
theorem kX14_error (l : Launch) (G : zG) (κ : Nat → Nat) (σ : rS) (x1 : Int) (x2 : Int) (hwf : rWF σ) (hx1 : rng x1) (hx2 : rng x2) (hp : pre_X14_error σ x1 x2) : rMi l G κ yX14_error cX14_error 3 .int 1 0 [.ref (κ 0), iv x1, iv x2] σ (fun x s => rKeep 0x1 0 0 0 0 σ s ∧ post_X14_error σ x1 x2 x s) := wX14_error l G κ σ x1 x2 hwf hx1 hx2 (post_X14_error σ x1 x2) (vX14_error σ x1 x2 hwf hx1 hx2 hp) 
def pre_X14_looked (σ : rS) (x1 : Int) (x2 : Int) : Prop := 0 ≤ (rF σ 0 43) ∧ (rF σ 0 43) ≤ 500 ∧ 0 ≤ (rF σ 0 45) ∧ (rF σ 0 45) ≤ 16000 ∧ 0 ≤ (rF σ 0 44) ∧ (rF σ 0 44) ≤ 4000 ∧ 0 ≤ (rF σ 0 60) ∧ (rF σ 0 60) ≤ 40 ∧ 0 ≤ (rF σ 0 3) ∧ (rF σ 0 3) ≤ 4000 ∧ VMp σ ∧ KYp σ ∧ PPp σ ∧ WFp σ
def post_X14_looked (σ : rS) (x1 : Int) (x2 : Int) (r : Int) (σ' : rS) : Prop := 0 ≤ (rF σ' 0 43) ∧ (rF σ' 0 43) ≤ 500 ∧ 0 ≤ (rF σ' 0 45) ∧ (rF σ' 0 45) ≤ 16000 ∧ 0 ≤ (rF σ' 0 44) ∧ (rF σ' 0 44) ≤ 4000 ∧ 0 ≤ (rF σ' 0 60) ∧ (rF σ' 0 60) ≤ 40 ∧ 0 ≤ (rF σ' 0 3) ∧ (rF σ' 0 3) ≤ 4000 ∧ VMp σ' ∧ KYp σ' ∧ PPp σ' ∧ WFp σ'
def VC_X14_looked (σ : rS) (x1 : Int) (x2 : Int) (Q : Int → rS → Prop) : Prop := ((x1 < 0 → Q (-2) (sF σ 0 0 0)) ∧ (¬ x1 < 0 → (rng (rF σ 0 74) → (((rF σ 0 74) ≤ x1 → Q (-2) (sF σ 0 0 0)) ∧ (¬ (rF σ 0 74) ≤ x1 → ((1000 ≤ x1 → Q (-2) (sF σ 0 0 0)) ∧ (¬ 1000 ≤ x1 → ((x2 < 0 → Q (-2) (sF σ 0 0 0)) ∧ (¬ x2 < 0 → ((x2 ≤ 1 → ((¬ x2 = 0 → (0 ≤ x1 ∧ x1 < 1000) ∧ (rng (rA σ 1079 x1) → Q (rA σ 1079 x1) (sF σ 0 0 0))) ∧ (x2 = 0 → (0 ≤ x1 ∧ x1 < 1000) ∧ (rng (rA σ 1078 x1) → Q (rA σ 1078 x1) (sF σ 0 0 0))))) ∧ (¬ x2 ≤ 1 → Q (-2) (sF σ 0 0 0))))))))))))
set_option maxHeartbeats 400000 in
theorem vX14_looked (σ : rS) (x1 : Int) (x2 : Int) (hwf : rWF σ) (hx1 : rng x1) (hx2 : rng x2) (hp : pre_X14_looked σ x1 x2) : VC_X14_looked σ x1 x2 (post_X14_looked σ x1 x2) := by
  simp only [VC_X14_looked, pre_X14_looked, post_X14_looked, rng, rfk, rNMp, rF_sF, rF_sA, rF_sL, rF_sR, rA_sA, rA_sF, rA_sL, rA_sR, rR_sF, rR_sA, rR_sL, rR_sR, reduceIte, and_true, true_and, and_false, false_and, and_self, VMp_sL, VMp_sF0, VMp_sF3, VMp_sF10, VMp_sF11, VMp_sF12, VMp_sF13, VMp_sF14, VMp_sF16, VMp_sF17, VMp_sF18, VMp_sF19, VMp_sF21, VMp_sF22, VMp_sF23, VMp_sF24, VMp_sF25, VMp_sF28, VMp_sF29, VMp_sF30, VMp_sF31, VMp_sF32, VMp_sF33, VMp_sF38, VMp_sF39, VMp_sF41, VMp_sF42, VMp_sF43, VMp_sF44, VMp_sF45, VMp_sF60, VMp_sF65, VMp_sF66, VMp_sF67, VMp_sF68, VMp_sF70, VMp_sF71, VMp_sF72, VMp_sF73, VMp_sF74, VMp_sF80, VMp_sF81, VMp_sF82, VMp_sF83, VMp_sF88, VMp_sF92, VMp_sF94, VMp_sF96, VMp_sF97, VMp_sF98, VMp_sF99, VMp_sF100, VMp_sF101, VMp_sF103, VMp_sF104, VMp_sF112, VMp_sF113, VMp_sF118, VMp_sF119, VMp_sF122, VMp_sF123, VMp_sF135, VMp_sF137, VMp_sA1, VMp_sA2, VMp_sA5, VMp_sA20, VMp_sA26, VMp_sA27, VMp_sA34, VMp_sA35, VMp_sA36, VMp_sA37, VMp_sA40, VMp_sA47, VMp_sA48, VMp_sA49, VMp_sA50, VMp_sA52, VMp_sA53, VMp_sA54, VMp_sA55, VMp_sA56, VMp_sA57, VMp_sA58, VMp_sA59, VMp_sA61, VMp_sA62, VMp_sA63, VMp_sA64, VMp_sA69, VMp_sA75, VMp_sA76, VMp_sA77, VMp_sA78, VMp_sA79, VMp_sA84, VMp_sA85, VMp_sA86, VMp_sA87, VMp_sA89, VMp_sA90, VMp_sA91, VMp_sA93, VMp_sA102, VMp_sA105, VMp_sA106, VMp_sA107, VMp_sA108, VMp_sA109, VMp_sA110, VMp_sA111, VMp_sA114, VMp_sA115, VMp_sA116, VMp_sA117, VMp_sA120, VMp_sA121, VMp_sA124, VMp_sA125, VMp_sA126, VMp_sA127, VMp_sA128, VMp_sA129, VMp_sA136, VMp_sA138, VMp_gA0, VMp_gA1, VMp_gA2, VMp_gA3, VMp_gA4, VMp_gA5, VMp_gA6, VMp_gA8, VMp_gA10, VMp_gA11, VMp_gA15, VMp_gA16, VMp_gA17, VMp_gA18, VMp_gA19, VMp_gA20, VMp_gA21, VMp_gA22, VMp_gA23, VMp_gA24, VMp_gA25, VMp_gA26, VMp_gA27, VMp_gA29, VMp_gA30, VMp_gA31, VMp_gA33, VMp_gA34, VMp_gA35, VMp_gA36, VMp_gA37, VMp_sF7, VMp_sF9, KYp_sL, KYp_sF0, KYp_sF3, KYp_sF10, KYp_sF11, KYp_sF12, KYp_sF13, KYp_sF14, KYp_sF16, KYp_sF17, KYp_sF18, KYp_sF19, KYp_sF21, KYp_sF22, KYp_sF23, KYp_sF24, KYp_sF25, KYp_sF28, KYp_sF29, KYp_sF30, KYp_sF31, KYp_sF32, KYp_sF33, KYp_sF38, KYp_sF39, KYp_sF41, KYp_sF42, KYp_sF43, KYp_sF44, KYp_sF45, KYp_sF60, KYp_sF65, KYp_sF66, KYp_sF67, KYp_sF68, KYp_sF70, KYp_sF71, KYp_sF72, KYp_sF73, KYp_sF74, KYp_sF80, KYp_sF81, KYp_sF82, KYp_sF83, KYp_sF88, KYp_sF92, KYp_sF94, KYp_sF96, KYp_sF97, KYp_sF98, KYp_sF99, KYp_sF100, KYp_sF101, KYp_sF103, KYp_sF104, KYp_sF112, KYp_sF113, KYp_sF118, KYp_sF119, KYp_sF122, KYp_sF123, KYp_sF135, KYp_sF137, KYp_sA1, KYp_sA2, KYp_sA5, KYp_sA20, KYp_sA26, KYp_sA27, KYp_sA34, KYp_sA35, KYp_sA36, KYp_sA37, KYp_sA40, KYp_sA46, KYp_sA47, KYp_sA48, KYp_sA49, KYp_sA50, KYp_sA51, KYp_sA52, KYp_sA55, KYp_sA56, KYp_sA57, KYp_sA58, KYp_sA59, KYp_sA61, KYp_sA62, KYp_sA63, KYp_sA64, KYp_sA69, KYp_sA75, KYp_sA76, KYp_sA77, KYp_sA78, KYp_sA79, KYp_sA84, KYp_sA85, KYp_sA86, KYp_sA87, KYp_sA89, KYp_sA90, KYp_sA91, KYp_sA93, KYp_sA102, KYp_sA105, KYp_sA106, KYp_sA107, KYp_sA108, KYp_sA109, KYp_sA110, KYp_sA111, KYp_sA114, KYp_sA115, KYp_sA116, KYp_sA117, KYp_sA120, KYp_sA121, KYp_sA124, KYp_sA125, KYp_sA126, KYp_sA127, KYp_sA128, KYp_sA129, KYp_sA136, KYp_sA138, KYp_gA0, KYp_gA1, KYp_gA2, KYp_gA3, KYp_gA4, KYp_gA5, KYp_gA6, KYp_gA8, KYp_gA10, KYp_gA11, KYp_gA15, KYp_gA16, KYp_gA17, KYp_gA18, KYp_gA19, KYp_gA20, KYp_gA21, KYp_gA22, KYp_gA23, KYp_gA24, KYp_gA25, KYp_gA26, KYp_gA27, KYp_gA29, KYp_gA30, KYp_gA31, KYp_gA33, KYp_gA34, KYp_gA35, KYp_gA36, KYp_gA37, KYp_sF7, KYp_sF9, PPp_sL, PPp_sF0, PPp_sF3, PPp_sF10, PPp_sF11, PPp_sF12, PPp_sF13, PPp_sF14, PPp_sF16, PPp_sF17, PPp_sF18, PPp_sF19, PPp_sF21, PPp_sF22, PPp_sF23, PPp_sF24, PPp_sF25, PPp_sF28, PPp_sF29, PPp_sF30, PPp_sF31, PPp_sF32, PPp_sF33, PPp_sF38, PPp_sF39, PPp_sF41, PPp_sF42, PPp_sF43, PPp_sF44, PPp_sF45, PPp_sF60, PPp_sF65, PPp_sF66, PPp_sF67, PPp_sF68, PPp_sF70, PPp_sF71, PPp_sF72, PPp_sF73, PPp_sF74, PPp_sF80, PPp_sF81, PPp_sF82, PPp_sF83, PPp_sF88, PPp_sF92, PPp_sF94, PPp_sF96, PPp_sF97, PPp_sF98, PPp_sF99, PPp_sF100, PPp_sF101, PPp_sF103, PPp_sF104, PPp_sF112, PPp_sF113, PPp_sF118, PPp_sF119, PPp_sF122, PPp_sF123, PPp_sF135, PPp_sF137, PPp_sA1, PPp_sA2, PPp_sA5, PPp_sA20, PPp_sA26, PPp_sA27, PPp_sA34, PPp_sA35, PPp_sA36, PPp_sA37, PPp_sA40, PPp_sA46, PPp_sA47, PPp_sA48, PPp_sA49, PPp_sA50, PPp_sA51, PPp_sA52, PPp_sA53, PPp_sA54, PPp_sA55, PPp_sA58, PPp_sA59, PPp_sA61, PPp_sA62, PPp_sA63, PPp_sA64, PPp_sA69, PPp_sA75, PPp_sA76, PPp_sA77, PPp_sA78, PPp_sA79, PPp_sA84, PPp_sA85, PPp_sA86, PPp_sA87, PPp_sA89, PPp_sA90, PPp_sA91, PPp_sA93, PPp_sA102, PPp_sA105, PPp_sA106, PPp_sA107, PPp_sA108, PPp_sA109, PPp_sA110, PPp_sA111, PPp_sA114, PPp_sA115, PPp_sA116, PPp_sA117, PPp_sA120, PPp_sA121, PPp_sA124, PPp_sA125, PPp_sA126, PPp_sA127, PPp_sA128, PPp_sA129, PPp_sA136, PPp_sA138, PPp_gA0, PPp_gA1, PPp_gA2, PPp_gA3, PPp_gA4, PPp_gA5, PPp_gA6, PPp_gA8, PPp_gA10, PPp_gA11, PPp_gA15, PPp_gA16, PPp_gA17, PPp_gA18, PPp_gA19, PPp_gA20, PPp_gA21, PPp_gA22, PPp_gA23, PPp_gA24, PPp_gA25, PPp_gA26, PPp_gA27, PPp_gA29, PPp_gA30, PPp_gA31, PPp_gA33, PPp_gA34, PPp_gA35, PPp_gA36, PPp_gA37, PPp_sF7, PPp_sF9, WFp_sL, WFp_sF0, WFp_sF3, WFp_sF10, WFp_sF11, WFp_sF12, WFp_sF13, WFp_sF14, WFp_sF16, WFp_sF17, WFp_sF18, WFp_sF19, WFp_sF21, WFp_sF22, WFp_sF23, WFp_sF24, WFp_sF25, WFp_sF28, WFp_sF29, WFp_sF30, WFp_sF31, WFp_sF32, WFp_sF33, WFp_sF38, WFp_sF39, WFp_sF41, WFp_sF42, WFp_sF43, WFp_sF44, WFp_sF45, WFp_sF60, WFp_sF65, WFp_sF66, WFp_sF67, WFp_sF68, WFp_sF70, WFp_sF71, WFp_sF72, WFp_sF73, WFp_sF74, WFp_sF80, WFp_sF81, WFp_sF82, WFp_sF83, WFp_sF88, WFp_sF92, WFp_sF94, WFp_sF96, WFp_sF97, WFp_sF98, WFp_sF99, WFp_sF100, WFp_sF101, WFp_sF103, WFp_sF104, WFp_sF112, WFp_sF113, WFp_sF118, WFp_sF119, WFp_sF122, WFp_sF123, WFp_sF135, WFp_sF137, WFp_sA1, WFp_sA2, WFp_sA5, WFp_sA20, WFp_sA26, WFp_sA27, WFp_sA34, WFp_sA35, WFp_sA36, WFp_sA37, WFp_sA40, WFp_sA46, WFp_sA47, WFp_sA48, WFp_sA51, WFp_sA52, WFp_sA53, WFp_sA54, WFp_sA55, WFp_sA56, WFp_sA57, WFp_sA58, WFp_sA59, WFp_sA61, WFp_sA62, WFp_sA63, WFp_sA64, WFp_sA69, WFp_sA75, WFp_sA76, WFp_sA77, WFp_sA78, WFp_sA79, WFp_sA84, WFp_sA85, WFp_sA86, WFp_sA87, WFp_sA89, WFp_sA90, WFp_sA91, WFp_sA93, WFp_sA102, WFp_sA105, WFp_sA106, WFp_sA107, WFp_sA108, WFp_sA109, WFp_sA110, WFp_sA111, WFp_sA114, WFp_sA115, WFp_sA116, WFp_sA117, WFp_sA120, WFp_sA121, WFp_sA124, WFp_sA125, WFp_sA126, WFp_sA127, WFp_sA128, WFp_sA129, WFp_sA136, WFp_sA138, WFp_gA0, WFp_gA1, WFp_gA2, WFp_gA3, WFp_gA4, WFp_gA5, WFp_gA6, WFp_gA8, WFp_gA10, WFp_gA11, WFp_gA15, WFp_gA16, WFp_gA17, WFp_gA18, WFp_gA19, WFp_gA20, WFp_gA21, WFp_gA22, WFp_gA23, WFp_gA24, WFp_gA25, WFp_gA26, WFp_gA27, WFp_gA29, WFp_gA30, WFp_gA31, WFp_gA33, WFp_gA34, WFp_gA35, WFp_gA36, WFp_gA37, WFp_sF7, WFp_sF9] at *
  (repeat' (first | with_reducible intro _ | with_reducible apply And.intro))
  all_goals (first | assumption | omega | grind (splits := 20) [rNM_sF0])
theorem wX14_looked (l : Launch) (G : zG) (κ : Nat → Nat) (σ : rS) (x1 : Int) (x2 : Int) (hwf : rWF σ) (hx1 : rng x1) (hx2 : rng x2) (Q : Int → rS → Prop) (h : VC_X14_looked σ x1 x2 Q) : rMi l G κ yX14_looked cX14_looked 3 .int 1 0 [.ref (κ 0), iv x1, iv x2] σ (fun x s => rKeep 0x1 0 0 0 0 σ s ∧ Q x s) := by
  refine zMi.intro (by decide +kernel) (Nat.le_of_ble_eq_true rfl) (fun X hC hR => ?_)
  refine z_aload_n hC (pc := 0) 0 dX14_looked_0 rfl rfl ?_
  refine z_iconst hC (pc := 1) (v := Int32.ofInt 0) dX14_looked_1 (by decide) ?_
  refine y_putI hC (pc := 2) zf14 rOb_0 0 (x := 0) dX14_looked_2 zw2468 (Or.inl rfl) rfl rfl (kk := ?_)
  have W10 := hwf.sF (q := 0) (f := 0) (x := 0) (r_lit rfl)
  refine z_iload_n hC (pc := 5) 1 dX14_looked_5 rfl rfl ?_
  obtain ⟨hT, hF⟩ := h
  refine y_if_lt hC (pc := 6) 33 hx1 dX14_looked_6 (by decide) (fun c => ?_) (fun c => ?_)
  · have h := hT c
    refine z_bipush hC (pc := 33) (v := Int32.ofInt (-2)) dX14_looked_33 (by decide) ?_
    exact y_reti hR dX14_looked_35 rfl (r_lit rfl) W10 (Nat.le_of_ble_eq_true rfl) (Nat.le_of_ble_eq_true rfl) ⟨(rKeep.tr rKeep.rf (rKeep.sF0 (f := 0)) rfl rfl rfl rfl rfl), h⟩
  · have h := hF c
    refine z_iload_n hC (pc := 9) 1 dX14_looked_9 rfl rfl ?_
    refine z_aload_n hC (pc := 10) 0 dX14_looked_10 rfl rfl ?_
    refine y_get hC (pc := 11) zf14 rOb_0 74 (v := iv (rF σ 0 74)) dX14_looked_11 zw2541 (rv_i (Or.inl rfl) ((F_sF_ne (by decide)).trans rfl)) (kk := ?_)
    have h := h (hwf.f _ _)
    obtain ⟨hT, hF⟩ := h
    refine y_icmp_ge hC (pc := 14) 33 hx1 (hwf.f _ _) dX14_looked_14 (by decide) (fun c => ?_) (fun c => ?_)
    · have h := hT c
      refine z_bipush hC (pc := 33) (v := Int32.ofInt (-2)) dX14_looked_33 (by decide) ?_
      exact y_reti hR dX14_looked_35 rfl (r_lit rfl) W10 (Nat.le_of_ble_eq_true rfl) (Nat.le_of_ble_eq_true rfl) ⟨(rKeep.tr rKeep.rf (rKeep.sF0 (f := 0)) rfl rfl rfl rfl rfl), h⟩
    · have h := hF c
      refine z_iload_n hC (pc := 17) 1 dX14_looked_17 rfl rfl ?_
      refine z_sipush hC (pc := 18) (v := Int32.ofInt 1000) dX14_looked_18 (by decide) ?_
      obtain ⟨hT, hF⟩ := h
      refine y_icmp_ge hC (pc := 21) 33 hx1 (r_lit rfl) dX14_looked_21 (by decide) (fun c => ?_) (fun c => ?_)
      · have h := hT c
        refine z_bipush hC (pc := 33) (v := Int32.ofInt (-2)) dX14_looked_33 (by decide) ?_
        exact y_reti hR dX14_looked_35 rfl (r_lit rfl) W10 (Nat.le_of_ble_eq_true rfl) (Nat.le_of_ble_eq_true rfl) ⟨(rKeep.tr rKeep.rf (rKeep.sF0 (f := 0)) rfl rfl rfl rfl rfl), h⟩
      · have h := hF c
        refine z_iload_n hC (pc := 24) 2 dX14_looked_24 rfl rfl ?_
        obtain ⟨hT, hF⟩ := h
        refine y_if_lt hC (pc := 25) 33 hx2 dX14_looked_25 (by decide) (fun c => ?_) (fun c => ?_)
        · have h := hT c
          refine z_bipush hC (pc := 33) (v := Int32.ofInt (-2)) dX14_looked_33 (by decide) ?_
          exact y_reti hR dX14_looked_35 rfl (r_lit rfl) W10 (Nat.le_of_ble_eq_true rfl) (Nat.le_of_ble_eq_true rfl) ⟨(rKeep.tr rKeep.rf (rKeep.sF0 (f := 0)) rfl rfl rfl rfl rfl), h⟩
        · have h := hF c
          refine z_iload_n hC (pc := 28) 2 dX14_looked_28 rfl rfl ?_
          refine z_iconst hC (pc := 29) (v := Int32.ofInt 1) dX14_looked_29 (by decide) ?_
          obtain ⟨hT, hF⟩ := h
          refine y_icmp_le hC (pc := 30) 36 hx2 (r_lit rfl) dX14_looked_30 (by decide) (fun c => ?_) (fun c => ?_)
          · have h := hT c
            refine z_iload_n hC (pc := 36) 2 dX14_looked_36 rfl rfl ?_
            obtain ⟨hT, hF⟩ := h
            refine y_if_ne hC (pc := 37) 49 hx2 dX14_looked_37 (by decide) (fun c => ?_) (fun c => ?_)
            · have h := hT c
              refine z_aload_n hC (pc := 49) 0 dX14_looked_49 rfl rfl ?_
              refine y_get hC (pc := 50) zf14 rOb_0 79 (v := .ref (κ 1079)) dX14_looked_50 zw2546 (rv_c rfl) (kk := ?_)
              refine z_iload_n hC (pc := 53) 1 dX14_looked_53 rfl rfl ?_
              obtain ⟨b11, h⟩ := h
              refine y_iald hC (pc := 54) (rAr_m rfl) dX14_looked_54 b11 (v := (rA σ 1079 x1)) rfl (kk := ?_)
              have h := h (hwf.a _ _)
              exact y_reti hR dX14_looked_55 rfl (hwf.a _ _) W10 (Nat.le_of_ble_eq_true rfl) (Nat.le_of_ble_eq_true rfl) ⟨(rKeep.tr rKeep.rf (rKeep.sF0 (f := 0)) rfl rfl rfl rfl rfl), h⟩
            · have h := hF c
              refine z_aload_n hC (pc := 40) 0 dX14_looked_40 rfl rfl ?_
              refine y_get hC (pc := 41) zf14 rOb_0 78 (v := .ref (κ 1078)) dX14_looked_41 zw2545 (rv_c rfl) (kk := ?_)
              refine z_iload_n hC (pc := 44) 1 dX14_looked_44 rfl rfl ?_
              obtain ⟨b12, h⟩ := h
              refine y_iald hC (pc := 45) (rAr_m rfl) dX14_looked_45 b12 (v := (rA σ 1078 x1)) rfl (kk := ?_)
              have h := h (hwf.a _ _)
              refine z_goto hC (pc := 46) 55 dX14_looked_46 (by decide) ?_
              exact y_reti hR dX14_looked_55 rfl (hwf.a _ _) W10 (Nat.le_of_ble_eq_true rfl) (Nat.le_of_ble_eq_true rfl) ⟨(rKeep.tr rKeep.rf (rKeep.sF0 (f := 0)) rfl rfl rfl rfl rfl), h⟩
          · have h := hF c
            refine z_bipush hC (pc := 33) (v := Int32.ofInt (-2)) dX14_looked_33 (by decide) ?_
            exact y_reti hR dX14_looked_35 rfl (r_lit rfl) W10 (Nat.le_of_ble_eq_true rfl) (Nat.le_of_ble_eq_true rfl) ⟨(rKeep.tr rKeep.rf (rKeep.sF0 (f := 0)) rfl rfl rfl rfl rfl), h⟩
theorem kX14_looked (l : Launch) (G : zG) (κ : Nat → Nat) (σ : rS) (x1 : Int) (x2 : Int) (hwf : rWF σ) (hx1 : rng x1) (hx2 : rng x2) (hp : pre_X14_looked σ x1 x2) : rMi l G κ yX14_looked cX14_looked 3 .int 1 0 [.ref (κ 0), iv x1, iv x2] σ (fun x s => rKeep 0x1 0 0 0 0 σ s ∧ post_X14_looked σ x1 x2 x s) := wX14_looked l G κ σ x1 x2 hwf hx1 hx2 (post_X14_looked σ x1 x2) (vX14_looked σ x1 x2 hwf hx1 hx2 hp) 
