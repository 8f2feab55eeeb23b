/-! a fault as a number; implications that omega does not look into -/
def Im (P Q : Prop) : Prop := P → Q
def fz (σ : rS) : Int := if rF σ 0 10 = 0 then 0 else 1
theorem fz_rng (σ : rS) : 0 ≤ fz σ ∧ fz σ ≤ 1 := by unfold fz; split <;> omega
theorem fz_z {σ : rS} (h : rF σ 0 10 = 0) : fz σ = 0 := if_pos h
theorem fz_n {σ : rS} (h : ¬ rF σ 0 10 = 0) : fz σ = 1 := if_neg h
theorem fz_0 {σ : rS} (h : fz σ = 0) : rF σ 0 10 = 0 := by
  by_cases e : rF σ 0 10 = 0
  · exact e
  · rw [fz_n e] at h; omega
theorem fz_le {σ s : rS} (h : rF σ 0 10 ≠ 0 → rF s 0 10 = rF σ 0 10) : fz σ ≤ fz s := by
  by_cases e : rF σ 0 10 = 0
  · rw [fz_z e]; exact (fz_rng s).1
  · rw [fz_n e, fz_n (by rw [h e]; exact e)]; omega
theorem fz_keep {a b c d e : Nat} {s t : rS} (h : rKeep a b c d e s t) (ha : a.testBit 10 = false) : fz t = fz s := by unfold fz; rw [h.F ha]
theorem fz_sA {σ : rS} {p : Nat} {i x : Int} : fz (sA σ p i x) = fz σ := rfl
theorem fz_sT {σ : rS} {k f : Nat} {i x : Int} : fz (sT σ k f i x) = fz σ := rfl
theorem fz_sL {σ : rS} {p : Nat} {i : Int} {x : Int64} : fz (sL σ p i x) = fz σ := rfl
theorem fz_sR {σ : rS} {p v : Nat} : fz (sR σ p v) = fz σ := rfl
theorem fz_sF0 {σ : rS} {q : Nat} {x : Int} : fz (sF σ q 0 x) = fz σ := by unfold fz; rw [F_sF_ne (by decide)]
theorem fz_sF1 {σ : rS} {q : Nat} {x : Int} : fz (sF σ q 1 x) = fz σ := by unfold fz; rw [F_sF_ne (by decide)]
theorem fz_sF2 {σ : rS} {q : Nat} {x : Int} : fz (sF σ q 2 x) = fz σ := by unfold fz; rw [F_sF_ne (by decide)]
theorem fz_sF3 {σ : rS} {q : Nat} {x : Int} : fz (sF σ q 3 x) = fz σ := by unfold fz; rw [F_sF_ne (by decide)]
theorem fz_sF4 {σ : rS} {q : Nat} {x : Int} : fz (sF σ q 4 x) = fz σ := by unfold fz; rw [F_sF_ne (by decide)]
theorem fz_sF5 {σ : rS} {q : Nat} {x : Int} : fz (sF σ q 5 x) = fz σ := by unfold fz; rw [F_sF_ne (by decide)]
theorem fz_sF6 {σ : rS} {q : Nat} {x : Int} : fz (sF σ q 6 x) = fz σ := by unfold fz; rw [F_sF_ne (by decide)]
theorem fz_sF7 {σ : rS} {q : Nat} {x : Int} : fz (sF σ q 7 x) = fz σ := by unfold fz; rw [F_sF_ne (by decide)]
theorem fz_sF8 {σ : rS} {q : Nat} {x : Int} : fz (sF σ q 8 x) = fz σ := by unfold fz; rw [F_sF_ne (by decide)]
theorem fz_sF9 {σ : rS} {q : Nat} {x : Int} : fz (sF σ q 9 x) = fz σ := by unfold fz; rw [F_sF_ne (by decide)]
theorem fz_sF11 {σ : rS} {q : Nat} {x : Int} : fz (sF σ q 11 x) = fz σ := by unfold fz; rw [F_sF_ne (by decide)]
theorem fz_sF12 {σ : rS} {q : Nat} {x : Int} : fz (sF σ q 12 x) = fz σ := by unfold fz; rw [F_sF_ne (by decide)]
theorem fz_sF13 {σ : rS} {q : Nat} {x : Int} : fz (sF σ q 13 x) = fz σ := by unfold fz; rw [F_sF_ne (by decide)]
theorem fz_sF14 {σ : rS} {q : Nat} {x : Int} : fz (sF σ q 14 x) = fz σ := by unfold fz; rw [F_sF_ne (by decide)]
theorem fz_sF15 {σ : rS} {q : Nat} {x : Int} : fz (sF σ q 15 x) = fz σ := by unfold fz; rw [F_sF_ne (by decide)]
theorem fz_sF16 {σ : rS} {q : Nat} {x : Int} : fz (sF σ q 16 x) = fz σ := by unfold fz; rw [F_sF_ne (by decide)]
theorem fz_sF17 {σ : rS} {q : Nat} {x : Int} : fz (sF σ q 17 x) = fz σ := by unfold fz; rw [F_sF_ne (by decide)]
theorem fz_sF18 {σ : rS} {q : Nat} {x : Int} : fz (sF σ q 18 x) = fz σ := by unfold fz; rw [F_sF_ne (by decide)]
theorem fz_sF19 {σ : rS} {q : Nat} {x : Int} : fz (sF σ q 19 x) = fz σ := by unfold fz; rw [F_sF_ne (by decide)]
theorem fz_sF20 {σ : rS} {q : Nat} {x : Int} : fz (sF σ q 20 x) = fz σ := by unfold fz; rw [F_sF_ne (by decide)]
theorem fz_sF21 {σ : rS} {q : Nat} {x : Int} : fz (sF σ q 21 x) = fz σ := by unfold fz; rw [F_sF_ne (by decide)]
theorem fz_sF22 {σ : rS} {q : Nat} {x : Int} : fz (sF σ q 22 x) = fz σ := by unfold fz; rw [F_sF_ne (by decide)]
theorem fz_sF23 {σ : rS} {q : Nat} {x : Int} : fz (sF σ q 23 x) = fz σ := by unfold fz; rw [F_sF_ne (by decide)]
theorem fz_sF24 {σ : rS} {q : Nat} {x : Int} : fz (sF σ q 24 x) = fz σ := by unfold fz; rw [F_sF_ne (by decide)]
theorem fz_sF25 {σ : rS} {q : Nat} {x : Int} : fz (sF σ q 25 x) = fz σ := by unfold fz; rw [F_sF_ne (by decide)]
theorem fz_sF26 {σ : rS} {q : Nat} {x : Int} : fz (sF σ q 26 x) = fz σ := by unfold fz; rw [F_sF_ne (by decide)]
theorem fz_sF27 {σ : rS} {q : Nat} {x : Int} : fz (sF σ q 27 x) = fz σ := by unfold fz; rw [F_sF_ne (by decide)]
theorem fz_sF28 {σ : rS} {q : Nat} {x : Int} : fz (sF σ q 28 x) = fz σ := by unfold fz; rw [F_sF_ne (by decide)]
theorem fz_sF29 {σ : rS} {q : Nat} {x : Int} : fz (sF σ q 29 x) = fz σ := by unfold fz; rw [F_sF_ne (by decide)]
theorem fz_sF30 {σ : rS} {q : Nat} {x : Int} : fz (sF σ q 30 x) = fz σ := by unfold fz; rw [F_sF_ne (by decide)]
theorem fz_sF31 {σ : rS} {q : Nat} {x : Int} : fz (sF σ q 31 x) = fz σ := by unfold fz; rw [F_sF_ne (by decide)]
theorem fz_sF32 {σ : rS} {q : Nat} {x : Int} : fz (sF σ q 32 x) = fz σ := by unfold fz; rw [F_sF_ne (by decide)]
theorem fz_sF33 {σ : rS} {q : Nat} {x : Int} : fz (sF σ q 33 x) = fz σ := by unfold fz; rw [F_sF_ne (by decide)]
theorem fz_sF34 {σ : rS} {q : Nat} {x : Int} : fz (sF σ q 34 x) = fz σ := by unfold fz; rw [F_sF_ne (by decide)]
theorem fz_sF35 {σ : rS} {q : Nat} {x : Int} : fz (sF σ q 35 x) = fz σ := by unfold fz; rw [F_sF_ne (by decide)]
theorem fz_sF36 {σ : rS} {q : Nat} {x : Int} : fz (sF σ q 36 x) = fz σ := by unfold fz; rw [F_sF_ne (by decide)]
theorem fz_sF37 {σ : rS} {q : Nat} {x : Int} : fz (sF σ q 37 x) = fz σ := by unfold fz; rw [F_sF_ne (by decide)]
theorem fz_sF38 {σ : rS} {q : Nat} {x : Int} : fz (sF σ q 38 x) = fz σ := by unfold fz; rw [F_sF_ne (by decide)]
theorem fz_sF39 {σ : rS} {q : Nat} {x : Int} : fz (sF σ q 39 x) = fz σ := by unfold fz; rw [F_sF_ne (by decide)]
theorem fz_sF40 {σ : rS} {q : Nat} {x : Int} : fz (sF σ q 40 x) = fz σ := by unfold fz; rw [F_sF_ne (by decide)]
theorem fz_sF41 {σ : rS} {q : Nat} {x : Int} : fz (sF σ q 41 x) = fz σ := by unfold fz; rw [F_sF_ne (by decide)]
theorem fz_sF42 {σ : rS} {q : Nat} {x : Int} : fz (sF σ q 42 x) = fz σ := by unfold fz; rw [F_sF_ne (by decide)]
theorem fz_sF43 {σ : rS} {q : Nat} {x : Int} : fz (sF σ q 43 x) = fz σ := by unfold fz; rw [F_sF_ne (by decide)]
theorem fz_sF44 {σ : rS} {q : Nat} {x : Int} : fz (sF σ q 44 x) = fz σ := by unfold fz; rw [F_sF_ne (by decide)]
theorem fz_sF45 {σ : rS} {q : Nat} {x : Int} : fz (sF σ q 45 x) = fz σ := by unfold fz; rw [F_sF_ne (by decide)]
theorem fz_sF46 {σ : rS} {q : Nat} {x : Int} : fz (sF σ q 46 x) = fz σ := by unfold fz; rw [F_sF_ne (by decide)]
theorem fz_sF47 {σ : rS} {q : Nat} {x : Int} : fz (sF σ q 47 x) = fz σ := by unfold fz; rw [F_sF_ne (by decide)]
theorem fz_sF48 {σ : rS} {q : Nat} {x : Int} : fz (sF σ q 48 x) = fz σ := by unfold fz; rw [F_sF_ne (by decide)]
theorem fz_sF49 {σ : rS} {q : Nat} {x : Int} : fz (sF σ q 49 x) = fz σ := by unfold fz; rw [F_sF_ne (by decide)]
theorem fz_sF50 {σ : rS} {q : Nat} {x : Int} : fz (sF σ q 50 x) = fz σ := by unfold fz; rw [F_sF_ne (by decide)]
theorem fz_sF51 {σ : rS} {q : Nat} {x : Int} : fz (sF σ q 51 x) = fz σ := by unfold fz; rw [F_sF_ne (by decide)]
theorem fz_sF52 {σ : rS} {q : Nat} {x : Int} : fz (sF σ q 52 x) = fz σ := by unfold fz; rw [F_sF_ne (by decide)]
theorem fz_sF53 {σ : rS} {q : Nat} {x : Int} : fz (sF σ q 53 x) = fz σ := by unfold fz; rw [F_sF_ne (by decide)]
theorem fz_sF54 {σ : rS} {q : Nat} {x : Int} : fz (sF σ q 54 x) = fz σ := by unfold fz; rw [F_sF_ne (by decide)]
theorem fz_sF55 {σ : rS} {q : Nat} {x : Int} : fz (sF σ q 55 x) = fz σ := by unfold fz; rw [F_sF_ne (by decide)]
theorem fz_sF56 {σ : rS} {q : Nat} {x : Int} : fz (sF σ q 56 x) = fz σ := by unfold fz; rw [F_sF_ne (by decide)]
theorem fz_sF57 {σ : rS} {q : Nat} {x : Int} : fz (sF σ q 57 x) = fz σ := by unfold fz; rw [F_sF_ne (by decide)]
theorem fz_sF58 {σ : rS} {q : Nat} {x : Int} : fz (sF σ q 58 x) = fz σ := by unfold fz; rw [F_sF_ne (by decide)]
theorem fz_sF59 {σ : rS} {q : Nat} {x : Int} : fz (sF σ q 59 x) = fz σ := by unfold fz; rw [F_sF_ne (by decide)]
theorem fz_sF60 {σ : rS} {q : Nat} {x : Int} : fz (sF σ q 60 x) = fz σ := by unfold fz; rw [F_sF_ne (by decide)]
theorem fz_sF61 {σ : rS} {q : Nat} {x : Int} : fz (sF σ q 61 x) = fz σ := by unfold fz; rw [F_sF_ne (by decide)]
theorem fz_sF62 {σ : rS} {q : Nat} {x : Int} : fz (sF σ q 62 x) = fz σ := by unfold fz; rw [F_sF_ne (by decide)]
theorem fz_sF63 {σ : rS} {q : Nat} {x : Int} : fz (sF σ q 63 x) = fz σ := by unfold fz; rw [F_sF_ne (by decide)]
theorem fz_sF64 {σ : rS} {q : Nat} {x : Int} : fz (sF σ q 64 x) = fz σ := by unfold fz; rw [F_sF_ne (by decide)]
theorem fz_sF65 {σ : rS} {q : Nat} {x : Int} : fz (sF σ q 65 x) = fz σ := by unfold fz; rw [F_sF_ne (by decide)]
theorem fz_sF66 {σ : rS} {q : Nat} {x : Int} : fz (sF σ q 66 x) = fz σ := by unfold fz; rw [F_sF_ne (by decide)]
theorem fz_sF67 {σ : rS} {q : Nat} {x : Int} : fz (sF σ q 67 x) = fz σ := by unfold fz; rw [F_sF_ne (by decide)]
theorem fz_sF68 {σ : rS} {q : Nat} {x : Int} : fz (sF σ q 68 x) = fz σ := by unfold fz; rw [F_sF_ne (by decide)]
theorem fz_sF69 {σ : rS} {q : Nat} {x : Int} : fz (sF σ q 69 x) = fz σ := by unfold fz; rw [F_sF_ne (by decide)]
theorem fz_sF70 {σ : rS} {q : Nat} {x : Int} : fz (sF σ q 70 x) = fz σ := by unfold fz; rw [F_sF_ne (by decide)]
theorem fz_sF71 {σ : rS} {q : Nat} {x : Int} : fz (sF σ q 71 x) = fz σ := by unfold fz; rw [F_sF_ne (by decide)]
theorem fz_sF72 {σ : rS} {q : Nat} {x : Int} : fz (sF σ q 72 x) = fz σ := by unfold fz; rw [F_sF_ne (by decide)]
theorem fz_sF73 {σ : rS} {q : Nat} {x : Int} : fz (sF σ q 73 x) = fz σ := by unfold fz; rw [F_sF_ne (by decide)]
theorem fz_sF74 {σ : rS} {q : Nat} {x : Int} : fz (sF σ q 74 x) = fz σ := by unfold fz; rw [F_sF_ne (by decide)]
theorem fz_sF75 {σ : rS} {q : Nat} {x : Int} : fz (sF σ q 75 x) = fz σ := by unfold fz; rw [F_sF_ne (by decide)]
theorem fz_sF76 {σ : rS} {q : Nat} {x : Int} : fz (sF σ q 76 x) = fz σ := by unfold fz; rw [F_sF_ne (by decide)]
theorem fz_sF77 {σ : rS} {q : Nat} {x : Int} : fz (sF σ q 77 x) = fz σ := by unfold fz; rw [F_sF_ne (by decide)]
theorem fz_sF78 {σ : rS} {q : Nat} {x : Int} : fz (sF σ q 78 x) = fz σ := by unfold fz; rw [F_sF_ne (by decide)]
theorem fz_sF79 {σ : rS} {q : Nat} {x : Int} : fz (sF σ q 79 x) = fz σ := by unfold fz; rw [F_sF_ne (by decide)]
theorem fz_sF80 {σ : rS} {q : Nat} {x : Int} : fz (sF σ q 80 x) = fz σ := by unfold fz; rw [F_sF_ne (by decide)]
theorem fz_sF81 {σ : rS} {q : Nat} {x : Int} : fz (sF σ q 81 x) = fz σ := by unfold fz; rw [F_sF_ne (by decide)]
theorem fz_sF82 {σ : rS} {q : Nat} {x : Int} : fz (sF σ q 82 x) = fz σ := by unfold fz; rw [F_sF_ne (by decide)]
theorem fz_sF83 {σ : rS} {q : Nat} {x : Int} : fz (sF σ q 83 x) = fz σ := by unfold fz; rw [F_sF_ne (by decide)]
theorem fz_sF84 {σ : rS} {q : Nat} {x : Int} : fz (sF σ q 84 x) = fz σ := by unfold fz; rw [F_sF_ne (by decide)]
theorem fz_sF85 {σ : rS} {q : Nat} {x : Int} : fz (sF σ q 85 x) = fz σ := by unfold fz; rw [F_sF_ne (by decide)]
theorem fz_sF86 {σ : rS} {q : Nat} {x : Int} : fz (sF σ q 86 x) = fz σ := by unfold fz; rw [F_sF_ne (by decide)]
theorem fz_sF87 {σ : rS} {q : Nat} {x : Int} : fz (sF σ q 87 x) = fz σ := by unfold fz; rw [F_sF_ne (by decide)]
theorem fz_sF88 {σ : rS} {q : Nat} {x : Int} : fz (sF σ q 88 x) = fz σ := by unfold fz; rw [F_sF_ne (by decide)]
theorem fz_sF89 {σ : rS} {q : Nat} {x : Int} : fz (sF σ q 89 x) = fz σ := by unfold fz; rw [F_sF_ne (by decide)]
theorem fz_sF90 {σ : rS} {q : Nat} {x : Int} : fz (sF σ q 90 x) = fz σ := by unfold fz; rw [F_sF_ne (by decide)]
theorem fz_sF91 {σ : rS} {q : Nat} {x : Int} : fz (sF σ q 91 x) = fz σ := by unfold fz; rw [F_sF_ne (by decide)]
theorem fz_sF92 {σ : rS} {q : Nat} {x : Int} : fz (sF σ q 92 x) = fz σ := by unfold fz; rw [F_sF_ne (by decide)]
theorem fz_sF93 {σ : rS} {q : Nat} {x : Int} : fz (sF σ q 93 x) = fz σ := by unfold fz; rw [F_sF_ne (by decide)]
theorem fz_sF94 {σ : rS} {q : Nat} {x : Int} : fz (sF σ q 94 x) = fz σ := by unfold fz; rw [F_sF_ne (by decide)]
theorem fz_sF95 {σ : rS} {q : Nat} {x : Int} : fz (sF σ q 95 x) = fz σ := by unfold fz; rw [F_sF_ne (by decide)]
theorem fz_sF96 {σ : rS} {q : Nat} {x : Int} : fz (sF σ q 96 x) = fz σ := by unfold fz; rw [F_sF_ne (by decide)]
theorem fz_sF97 {σ : rS} {q : Nat} {x : Int} : fz (sF σ q 97 x) = fz σ := by unfold fz; rw [F_sF_ne (by decide)]
theorem fz_sF98 {σ : rS} {q : Nat} {x : Int} : fz (sF σ q 98 x) = fz σ := by unfold fz; rw [F_sF_ne (by decide)]
theorem fz_sF99 {σ : rS} {q : Nat} {x : Int} : fz (sF σ q 99 x) = fz σ := by unfold fz; rw [F_sF_ne (by decide)]
theorem fz_sF100 {σ : rS} {q : Nat} {x : Int} : fz (sF σ q 100 x) = fz σ := by unfold fz; rw [F_sF_ne (by decide)]
theorem fz_sF101 {σ : rS} {q : Nat} {x : Int} : fz (sF σ q 101 x) = fz σ := by unfold fz; rw [F_sF_ne (by decide)]
theorem fz_sF102 {σ : rS} {q : Nat} {x : Int} : fz (sF σ q 102 x) = fz σ := by unfold fz; rw [F_sF_ne (by decide)]
theorem fz_sF103 {σ : rS} {q : Nat} {x : Int} : fz (sF σ q 103 x) = fz σ := by unfold fz; rw [F_sF_ne (by decide)]
theorem fz_sF104 {σ : rS} {q : Nat} {x : Int} : fz (sF σ q 104 x) = fz σ := by unfold fz; rw [F_sF_ne (by decide)]
theorem fz_sF105 {σ : rS} {q : Nat} {x : Int} : fz (sF σ q 105 x) = fz σ := by unfold fz; rw [F_sF_ne (by decide)]
theorem fz_sF106 {σ : rS} {q : Nat} {x : Int} : fz (sF σ q 106 x) = fz σ := by unfold fz; rw [F_sF_ne (by decide)]
theorem fz_sF107 {σ : rS} {q : Nat} {x : Int} : fz (sF σ q 107 x) = fz σ := by unfold fz; rw [F_sF_ne (by decide)]
theorem fz_sF108 {σ : rS} {q : Nat} {x : Int} : fz (sF σ q 108 x) = fz σ := by unfold fz; rw [F_sF_ne (by decide)]
theorem fz_sF109 {σ : rS} {q : Nat} {x : Int} : fz (sF σ q 109 x) = fz σ := by unfold fz; rw [F_sF_ne (by decide)]
theorem fz_sF110 {σ : rS} {q : Nat} {x : Int} : fz (sF σ q 110 x) = fz σ := by unfold fz; rw [F_sF_ne (by decide)]
theorem fz_sF111 {σ : rS} {q : Nat} {x : Int} : fz (sF σ q 111 x) = fz σ := by unfold fz; rw [F_sF_ne (by decide)]
theorem fz_sF112 {σ : rS} {q : Nat} {x : Int} : fz (sF σ q 112 x) = fz σ := by unfold fz; rw [F_sF_ne (by decide)]
theorem fz_sF113 {σ : rS} {q : Nat} {x : Int} : fz (sF σ q 113 x) = fz σ := by unfold fz; rw [F_sF_ne (by decide)]
theorem fz_sF114 {σ : rS} {q : Nat} {x : Int} : fz (sF σ q 114 x) = fz σ := by unfold fz; rw [F_sF_ne (by decide)]
theorem fz_sF115 {σ : rS} {q : Nat} {x : Int} : fz (sF σ q 115 x) = fz σ := by unfold fz; rw [F_sF_ne (by decide)]
theorem fz_sF116 {σ : rS} {q : Nat} {x : Int} : fz (sF σ q 116 x) = fz σ := by unfold fz; rw [F_sF_ne (by decide)]
theorem fz_sF117 {σ : rS} {q : Nat} {x : Int} : fz (sF σ q 117 x) = fz σ := by unfold fz; rw [F_sF_ne (by decide)]
theorem fz_sF118 {σ : rS} {q : Nat} {x : Int} : fz (sF σ q 118 x) = fz σ := by unfold fz; rw [F_sF_ne (by decide)]
theorem fz_sF119 {σ : rS} {q : Nat} {x : Int} : fz (sF σ q 119 x) = fz σ := by unfold fz; rw [F_sF_ne (by decide)]
theorem fz_sF120 {σ : rS} {q : Nat} {x : Int} : fz (sF σ q 120 x) = fz σ := by unfold fz; rw [F_sF_ne (by decide)]
theorem fz_sF121 {σ : rS} {q : Nat} {x : Int} : fz (sF σ q 121 x) = fz σ := by unfold fz; rw [F_sF_ne (by decide)]
theorem fz_sF122 {σ : rS} {q : Nat} {x : Int} : fz (sF σ q 122 x) = fz σ := by unfold fz; rw [F_sF_ne (by decide)]
theorem fz_sF123 {σ : rS} {q : Nat} {x : Int} : fz (sF σ q 123 x) = fz σ := by unfold fz; rw [F_sF_ne (by decide)]
theorem fz_sF124 {σ : rS} {q : Nat} {x : Int} : fz (sF σ q 124 x) = fz σ := by unfold fz; rw [F_sF_ne (by decide)]
theorem fz_sF125 {σ : rS} {q : Nat} {x : Int} : fz (sF σ q 125 x) = fz σ := by unfold fz; rw [F_sF_ne (by decide)]
theorem fz_sF126 {σ : rS} {q : Nat} {x : Int} : fz (sF σ q 126 x) = fz σ := by unfold fz; rw [F_sF_ne (by decide)]
theorem fz_sF127 {σ : rS} {q : Nat} {x : Int} : fz (sF σ q 127 x) = fz σ := by unfold fz; rw [F_sF_ne (by decide)]
theorem fz_sF128 {σ : rS} {q : Nat} {x : Int} : fz (sF σ q 128 x) = fz σ := by unfold fz; rw [F_sF_ne (by decide)]
theorem fz_sF129 {σ : rS} {q : Nat} {x : Int} : fz (sF σ q 129 x) = fz σ := by unfold fz; rw [F_sF_ne (by decide)]
theorem fz_sF130 {σ : rS} {q : Nat} {x : Int} : fz (sF σ q 130 x) = fz σ := by unfold fz; rw [F_sF_ne (by decide)]
theorem fz_sF131 {σ : rS} {q : Nat} {x : Int} : fz (sF σ q 131 x) = fz σ := by unfold fz; rw [F_sF_ne (by decide)]
theorem fz_sF132 {σ : rS} {q : Nat} {x : Int} : fz (sF σ q 132 x) = fz σ := by unfold fz; rw [F_sF_ne (by decide)]
theorem fz_sF133 {σ : rS} {q : Nat} {x : Int} : fz (sF σ q 133 x) = fz σ := by unfold fz; rw [F_sF_ne (by decide)]
theorem fz_sF134 {σ : rS} {q : Nat} {x : Int} : fz (sF σ q 134 x) = fz σ := by unfold fz; rw [F_sF_ne (by decide)]
theorem fz_sF135 {σ : rS} {q : Nat} {x : Int} : fz (sF σ q 135 x) = fz σ := by unfold fz; rw [F_sF_ne (by decide)]
theorem fz_sF136 {σ : rS} {q : Nat} {x : Int} : fz (sF σ q 136 x) = fz σ := by unfold fz; rw [F_sF_ne (by decide)]
theorem fz_sF137 {σ : rS} {q : Nat} {x : Int} : fz (sF σ q 137 x) = fz σ := by unfold fz; rw [F_sF_ne (by decide)]
theorem fz_sF138 {σ : rS} {q : Nat} {x : Int} : fz (sF σ q 138 x) = fz σ := by unfold fz; rw [F_sF_ne (by decide)]
theorem rA_sT1 {σ : rS} {k f : Nat} {i x j : Int} (hk : rgk k) : rA (sT σ k f i x) 1001 j = rA σ 1001 j := by
  have h1 : 1 ≤ k := by rcases hk with rfl | rfl | rfl <;> decide
  exact A_sA_ne (by omega)
theorem rA_sT2 {σ : rS} {k f : Nat} {i x j : Int} (hk : rgk k) : rA (sT σ k f i x) 1002 j = rA σ 1002 j := by
  have h1 : 1 ≤ k := by rcases hk with rfl | rfl | rfl <;> decide
  exact A_sA_ne (by omega)
theorem rA_sT5 {σ : rS} {k f : Nat} {i x j : Int} (hk : rgk k) : rA (sT σ k f i x) 1005 j = rA σ 1005 j := by
  have h1 : 1 ≤ k := by rcases hk with rfl | rfl | rfl <;> decide
  exact A_sA_ne (by omega)
theorem rA_sT20 {σ : rS} {k f : Nat} {i x j : Int} (hk : rgk k) : rA (sT σ k f i x) 1020 j = rA σ 1020 j := by
  have h1 : 1 ≤ k := by rcases hk with rfl | rfl | rfl <;> decide
  exact A_sA_ne (by omega)
theorem rA_sT26 {σ : rS} {k f : Nat} {i x j : Int} (hk : rgk k) : rA (sT σ k f i x) 1026 j = rA σ 1026 j := by
  have h1 : 1 ≤ k := by rcases hk with rfl | rfl | rfl <;> decide
  exact A_sA_ne (by omega)
theorem rA_sT27 {σ : rS} {k f : Nat} {i x j : Int} (hk : rgk k) : rA (sT σ k f i x) 1027 j = rA σ 1027 j := by
  have h1 : 1 ≤ k := by rcases hk with rfl | rfl | rfl <;> decide
  exact A_sA_ne (by omega)
theorem rA_sT34 {σ : rS} {k f : Nat} {i x j : Int} (hk : rgk k) : rA (sT σ k f i x) 1034 j = rA σ 1034 j := by
  have h1 : 1 ≤ k := by rcases hk with rfl | rfl | rfl <;> decide
  exact A_sA_ne (by omega)
theorem rA_sT35 {σ : rS} {k f : Nat} {i x j : Int} (hk : rgk k) : rA (sT σ k f i x) 1035 j = rA σ 1035 j := by
  have h1 : 1 ≤ k := by rcases hk with rfl | rfl | rfl <;> decide
  exact A_sA_ne (by omega)
theorem rA_sT36 {σ : rS} {k f : Nat} {i x j : Int} (hk : rgk k) : rA (sT σ k f i x) 1036 j = rA σ 1036 j := by
  have h1 : 1 ≤ k := by rcases hk with rfl | rfl | rfl <;> decide
  exact A_sA_ne (by omega)
theorem rA_sT37 {σ : rS} {k f : Nat} {i x j : Int} (hk : rgk k) : rA (sT σ k f i x) 1037 j = rA σ 1037 j := by
  have h1 : 1 ≤ k := by rcases hk with rfl | rfl | rfl <;> decide
  exact A_sA_ne (by omega)
theorem rA_sT40 {σ : rS} {k f : Nat} {i x j : Int} (hk : rgk k) : rA (sT σ k f i x) 1040 j = rA σ 1040 j := by
  have h1 : 1 ≤ k := by rcases hk with rfl | rfl | rfl <;> decide
  exact A_sA_ne (by omega)
theorem rA_sT46 {σ : rS} {k f : Nat} {i x j : Int} (hk : rgk k) : rA (sT σ k f i x) 1046 j = rA σ 1046 j := by
  have h1 : 1 ≤ k := by rcases hk with rfl | rfl | rfl <;> decide
  exact A_sA_ne (by omega)
theorem rA_sT47 {σ : rS} {k f : Nat} {i x j : Int} (hk : rgk k) : rA (sT σ k f i x) 1047 j = rA σ 1047 j := by
  have h1 : 1 ≤ k := by rcases hk with rfl | rfl | rfl <;> decide
  exact A_sA_ne (by omega)
theorem rA_sT48 {σ : rS} {k f : Nat} {i x j : Int} (hk : rgk k) : rA (sT σ k f i x) 1048 j = rA σ 1048 j := by
  have h1 : 1 ≤ k := by rcases hk with rfl | rfl | rfl <;> decide
  exact A_sA_ne (by omega)
theorem rA_sT49 {σ : rS} {k f : Nat} {i x j : Int} (hk : rgk k) : rA (sT σ k f i x) 1049 j = rA σ 1049 j := by
  have h1 : 1 ≤ k := by rcases hk with rfl | rfl | rfl <;> decide
  exact A_sA_ne (by omega)
theorem rA_sT50 {σ : rS} {k f : Nat} {i x j : Int} (hk : rgk k) : rA (sT σ k f i x) 1050 j = rA σ 1050 j := by
  have h1 : 1 ≤ k := by rcases hk with rfl | rfl | rfl <;> decide
  exact A_sA_ne (by omega)
theorem rA_sT51 {σ : rS} {k f : Nat} {i x j : Int} (hk : rgk k) : rA (sT σ k f i x) 1051 j = rA σ 1051 j := by
  have h1 : 1 ≤ k := by rcases hk with rfl | rfl | rfl <;> decide
  exact A_sA_ne (by omega)
theorem rA_sT52 {σ : rS} {k f : Nat} {i x j : Int} (hk : rgk k) : rA (sT σ k f i x) 1052 j = rA σ 1052 j := by
  have h1 : 1 ≤ k := by rcases hk with rfl | rfl | rfl <;> decide
  exact A_sA_ne (by omega)
theorem rA_sT53 {σ : rS} {k f : Nat} {i x j : Int} (hk : rgk k) : rA (sT σ k f i x) 1053 j = rA σ 1053 j := by
  have h1 : 1 ≤ k := by rcases hk with rfl | rfl | rfl <;> decide
  exact A_sA_ne (by omega)
theorem rA_sT54 {σ : rS} {k f : Nat} {i x j : Int} (hk : rgk k) : rA (sT σ k f i x) 1054 j = rA σ 1054 j := by
  have h1 : 1 ≤ k := by rcases hk with rfl | rfl | rfl <;> decide
  exact A_sA_ne (by omega)
theorem rA_sT55 {σ : rS} {k f : Nat} {i x j : Int} (hk : rgk k) : rA (sT σ k f i x) 1055 j = rA σ 1055 j := by
  have h1 : 1 ≤ k := by rcases hk with rfl | rfl | rfl <;> decide
  exact A_sA_ne (by omega)
theorem rA_sT56 {σ : rS} {k f : Nat} {i x j : Int} (hk : rgk k) : rA (sT σ k f i x) 1056 j = rA σ 1056 j := by
  have h1 : 1 ≤ k := by rcases hk with rfl | rfl | rfl <;> decide
  exact A_sA_ne (by omega)
theorem rA_sT57 {σ : rS} {k f : Nat} {i x j : Int} (hk : rgk k) : rA (sT σ k f i x) 1057 j = rA σ 1057 j := by
  have h1 : 1 ≤ k := by rcases hk with rfl | rfl | rfl <;> decide
  exact A_sA_ne (by omega)
theorem rA_sT58 {σ : rS} {k f : Nat} {i x j : Int} (hk : rgk k) : rA (sT σ k f i x) 1058 j = rA σ 1058 j := by
  have h1 : 1 ≤ k := by rcases hk with rfl | rfl | rfl <;> decide
  exact A_sA_ne (by omega)
theorem rA_sT59 {σ : rS} {k f : Nat} {i x j : Int} (hk : rgk k) : rA (sT σ k f i x) 1059 j = rA σ 1059 j := by
  have h1 : 1 ≤ k := by rcases hk with rfl | rfl | rfl <;> decide
  exact A_sA_ne (by omega)
theorem rA_sT61 {σ : rS} {k f : Nat} {i x j : Int} (hk : rgk k) : rA (sT σ k f i x) 1061 j = rA σ 1061 j := by
  have h1 : 1 ≤ k := by rcases hk with rfl | rfl | rfl <;> decide
  exact A_sA_ne (by omega)
theorem rA_sT62 {σ : rS} {k f : Nat} {i x j : Int} (hk : rgk k) : rA (sT σ k f i x) 1062 j = rA σ 1062 j := by
  have h1 : 1 ≤ k := by rcases hk with rfl | rfl | rfl <;> decide
  exact A_sA_ne (by omega)
theorem rA_sT63 {σ : rS} {k f : Nat} {i x j : Int} (hk : rgk k) : rA (sT σ k f i x) 1063 j = rA σ 1063 j := by
  have h1 : 1 ≤ k := by rcases hk with rfl | rfl | rfl <;> decide
  exact A_sA_ne (by omega)
theorem rA_sT64 {σ : rS} {k f : Nat} {i x j : Int} (hk : rgk k) : rA (sT σ k f i x) 1064 j = rA σ 1064 j := by
  have h1 : 1 ≤ k := by rcases hk with rfl | rfl | rfl <;> decide
  exact A_sA_ne (by omega)
theorem rA_sT69 {σ : rS} {k f : Nat} {i x j : Int} (hk : rgk k) : rA (sT σ k f i x) 1069 j = rA σ 1069 j := by
  have h1 : 1 ≤ k := by rcases hk with rfl | rfl | rfl <;> decide
  exact A_sA_ne (by omega)
theorem rA_sT75 {σ : rS} {k f : Nat} {i x j : Int} (hk : rgk k) : rA (sT σ k f i x) 1075 j = rA σ 1075 j := by
  have h1 : 1 ≤ k := by rcases hk with rfl | rfl | rfl <;> decide
  exact A_sA_ne (by omega)
theorem rA_sT76 {σ : rS} {k f : Nat} {i x j : Int} (hk : rgk k) : rA (sT σ k f i x) 1076 j = rA σ 1076 j := by
  have h1 : 1 ≤ k := by rcases hk with rfl | rfl | rfl <;> decide
  exact A_sA_ne (by omega)
theorem rA_sT77 {σ : rS} {k f : Nat} {i x j : Int} (hk : rgk k) : rA (sT σ k f i x) 1077 j = rA σ 1077 j := by
  have h1 : 1 ≤ k := by rcases hk with rfl | rfl | rfl <;> decide
  exact A_sA_ne (by omega)
theorem rA_sT78 {σ : rS} {k f : Nat} {i x j : Int} (hk : rgk k) : rA (sT σ k f i x) 1078 j = rA σ 1078 j := by
  have h1 : 1 ≤ k := by rcases hk with rfl | rfl | rfl <;> decide
  exact A_sA_ne (by omega)
theorem rA_sT79 {σ : rS} {k f : Nat} {i x j : Int} (hk : rgk k) : rA (sT σ k f i x) 1079 j = rA σ 1079 j := by
  have h1 : 1 ≤ k := by rcases hk with rfl | rfl | rfl <;> decide
  exact A_sA_ne (by omega)
theorem rA_sT84 {σ : rS} {k f : Nat} {i x j : Int} (hk : rgk k) : rA (sT σ k f i x) 1084 j = rA σ 1084 j := by
  have h1 : 1 ≤ k := by rcases hk with rfl | rfl | rfl <;> decide
  exact A_sA_ne (by omega)
theorem rA_sT85 {σ : rS} {k f : Nat} {i x j : Int} (hk : rgk k) : rA (sT σ k f i x) 1085 j = rA σ 1085 j := by
  have h1 : 1 ≤ k := by rcases hk with rfl | rfl | rfl <;> decide
  exact A_sA_ne (by omega)
theorem rA_sT86 {σ : rS} {k f : Nat} {i x j : Int} (hk : rgk k) : rA (sT σ k f i x) 1086 j = rA σ 1086 j := by
  have h1 : 1 ≤ k := by rcases hk with rfl | rfl | rfl <;> decide
  exact A_sA_ne (by omega)
theorem rA_sT87 {σ : rS} {k f : Nat} {i x j : Int} (hk : rgk k) : rA (sT σ k f i x) 1087 j = rA σ 1087 j := by
  have h1 : 1 ≤ k := by rcases hk with rfl | rfl | rfl <;> decide
  exact A_sA_ne (by omega)
theorem rA_sT89 {σ : rS} {k f : Nat} {i x j : Int} (hk : rgk k) : rA (sT σ k f i x) 1089 j = rA σ 1089 j := by
  have h1 : 1 ≤ k := by rcases hk with rfl | rfl | rfl <;> decide
  exact A_sA_ne (by omega)
theorem rA_sT90 {σ : rS} {k f : Nat} {i x j : Int} (hk : rgk k) : rA (sT σ k f i x) 1090 j = rA σ 1090 j := by
  have h1 : 1 ≤ k := by rcases hk with rfl | rfl | rfl <;> decide
  exact A_sA_ne (by omega)
theorem rA_sT91 {σ : rS} {k f : Nat} {i x j : Int} (hk : rgk k) : rA (sT σ k f i x) 1091 j = rA σ 1091 j := by
  have h1 : 1 ≤ k := by rcases hk with rfl | rfl | rfl <;> decide
  exact A_sA_ne (by omega)
theorem rA_sT93 {σ : rS} {k f : Nat} {i x j : Int} (hk : rgk k) : rA (sT σ k f i x) 1093 j = rA σ 1093 j := by
  have h1 : 1 ≤ k := by rcases hk with rfl | rfl | rfl <;> decide
  exact A_sA_ne (by omega)
theorem rA_sT102 {σ : rS} {k f : Nat} {i x j : Int} (hk : rgk k) : rA (sT σ k f i x) 1102 j = rA σ 1102 j := by
  have h1 : 1 ≤ k := by rcases hk with rfl | rfl | rfl <;> decide
  exact A_sA_ne (by omega)
theorem rA_sT105 {σ : rS} {k f : Nat} {i x j : Int} (hk : rgk k) : rA (sT σ k f i x) 1105 j = rA σ 1105 j := by
  have h1 : 1 ≤ k := by rcases hk with rfl | rfl | rfl <;> decide
  exact A_sA_ne (by omega)
theorem rA_sT106 {σ : rS} {k f : Nat} {i x j : Int} (hk : rgk k) : rA (sT σ k f i x) 1106 j = rA σ 1106 j := by
  have h1 : 1 ≤ k := by rcases hk with rfl | rfl | rfl <;> decide
  exact A_sA_ne (by omega)
theorem rA_sT107 {σ : rS} {k f : Nat} {i x j : Int} (hk : rgk k) : rA (sT σ k f i x) 1107 j = rA σ 1107 j := by
  have h1 : 1 ≤ k := by rcases hk with rfl | rfl | rfl <;> decide
  exact A_sA_ne (by omega)
theorem rA_sT108 {σ : rS} {k f : Nat} {i x j : Int} (hk : rgk k) : rA (sT σ k f i x) 1108 j = rA σ 1108 j := by
  have h1 : 1 ≤ k := by rcases hk with rfl | rfl | rfl <;> decide
  exact A_sA_ne (by omega)
theorem rA_sT109 {σ : rS} {k f : Nat} {i x j : Int} (hk : rgk k) : rA (sT σ k f i x) 1109 j = rA σ 1109 j := by
  have h1 : 1 ≤ k := by rcases hk with rfl | rfl | rfl <;> decide
  exact A_sA_ne (by omega)
theorem rA_sT110 {σ : rS} {k f : Nat} {i x j : Int} (hk : rgk k) : rA (sT σ k f i x) 1110 j = rA σ 1110 j := by
  have h1 : 1 ≤ k := by rcases hk with rfl | rfl | rfl <;> decide
  exact A_sA_ne (by omega)
theorem rA_sT111 {σ : rS} {k f : Nat} {i x j : Int} (hk : rgk k) : rA (sT σ k f i x) 1111 j = rA σ 1111 j := by
  have h1 : 1 ≤ k := by rcases hk with rfl | rfl | rfl <;> decide
  exact A_sA_ne (by omega)
theorem rA_sT114 {σ : rS} {k f : Nat} {i x j : Int} (hk : rgk k) : rA (sT σ k f i x) 1114 j = rA σ 1114 j := by
  have h1 : 1 ≤ k := by rcases hk with rfl | rfl | rfl <;> decide
  exact A_sA_ne (by omega)
theorem rA_sT115 {σ : rS} {k f : Nat} {i x j : Int} (hk : rgk k) : rA (sT σ k f i x) 1115 j = rA σ 1115 j := by
  have h1 : 1 ≤ k := by rcases hk with rfl | rfl | rfl <;> decide
  exact A_sA_ne (by omega)
theorem rA_sT116 {σ : rS} {k f : Nat} {i x j : Int} (hk : rgk k) : rA (sT σ k f i x) 1116 j = rA σ 1116 j := by
  have h1 : 1 ≤ k := by rcases hk with rfl | rfl | rfl <;> decide
  exact A_sA_ne (by omega)
theorem rA_sT117 {σ : rS} {k f : Nat} {i x j : Int} (hk : rgk k) : rA (sT σ k f i x) 1117 j = rA σ 1117 j := by
  have h1 : 1 ≤ k := by rcases hk with rfl | rfl | rfl <;> decide
  exact A_sA_ne (by omega)
theorem rA_sT120 {σ : rS} {k f : Nat} {i x j : Int} (hk : rgk k) : rA (sT σ k f i x) 1120 j = rA σ 1120 j := by
  have h1 : 1 ≤ k := by rcases hk with rfl | rfl | rfl <;> decide
  exact A_sA_ne (by omega)
theorem rA_sT121 {σ : rS} {k f : Nat} {i x j : Int} (hk : rgk k) : rA (sT σ k f i x) 1121 j = rA σ 1121 j := by
  have h1 : 1 ≤ k := by rcases hk with rfl | rfl | rfl <;> decide
  exact A_sA_ne (by omega)
theorem rA_sT124 {σ : rS} {k f : Nat} {i x j : Int} (hk : rgk k) : rA (sT σ k f i x) 1124 j = rA σ 1124 j := by
  have h1 : 1 ≤ k := by rcases hk with rfl | rfl | rfl <;> decide
  exact A_sA_ne (by omega)
theorem rA_sT125 {σ : rS} {k f : Nat} {i x j : Int} (hk : rgk k) : rA (sT σ k f i x) 1125 j = rA σ 1125 j := by
  have h1 : 1 ≤ k := by rcases hk with rfl | rfl | rfl <;> decide
  exact A_sA_ne (by omega)
theorem rA_sT126 {σ : rS} {k f : Nat} {i x j : Int} (hk : rgk k) : rA (sT σ k f i x) 1126 j = rA σ 1126 j := by
  have h1 : 1 ≤ k := by rcases hk with rfl | rfl | rfl <;> decide
  exact A_sA_ne (by omega)
theorem rA_sT127 {σ : rS} {k f : Nat} {i x j : Int} (hk : rgk k) : rA (sT σ k f i x) 1127 j = rA σ 1127 j := by
  have h1 : 1 ≤ k := by rcases hk with rfl | rfl | rfl <;> decide
  exact A_sA_ne (by omega)
theorem rA_sT128 {σ : rS} {k f : Nat} {i x j : Int} (hk : rgk k) : rA (sT σ k f i x) 1128 j = rA σ 1128 j := by
  have h1 : 1 ≤ k := by rcases hk with rfl | rfl | rfl <;> decide
  exact A_sA_ne (by omega)
theorem rA_sT129 {σ : rS} {k f : Nat} {i x j : Int} (hk : rgk k) : rA (sT σ k f i x) 1129 j = rA σ 1129 j := by
  have h1 : 1 ≤ k := by rcases hk with rfl | rfl | rfl <;> decide
  exact A_sA_ne (by omega)
theorem rA_sT136 {σ : rS} {k f : Nat} {i x j : Int} (hk : rgk k) : rA (sT σ k f i x) 1136 j = rA σ 1136 j := by
  have h1 : 1 ≤ k := by rcases hk with rfl | rfl | rfl <;> decide
  exact A_sA_ne (by omega)
theorem rA_sT138 {σ : rS} {k f : Nat} {i x j : Int} (hk : rgk k) : rA (sT σ k f i x) 1138 j = rA σ 1138 j := by
  have h1 : 1 ≤ k := by rcases hk with rfl | rfl | rfl <;> decide
  exact A_sA_ne (by omega)
