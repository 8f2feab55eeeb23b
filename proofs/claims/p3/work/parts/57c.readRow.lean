def inv_X14_readRow_52 (σ : rS) (gg : Nat) (g : Nat → Int → Int)  (s : rS) (it : Int) (last : Int) (more : Int) : Prop := NBQ σ s gg 0 0 0 0 (rF σ 0 31) ∧ rNMp s ∧ WNp s ∧ PNp s ∧ it = (rF σ gg 7) ∧ it < (rF s gg 7) ∧ (rF σ 0 29) + 1 ≤ (rF s 0 29) ∧ (rF s gg 7) + 3 * (rF s 0 38) + 4 * (rF σ 0 29) + 2 + more ≤ (rF σ gg 7) + 3 * (rF σ 0 38) + 4 * (rF s 0 29) + 4 * fz s ∧ 0 ≤ last ∧ last < (rF s gg 7) ∧ (more = 0 ∨ more = 1) ∧ (last ≠ 0 → (rF σ gg 7) < last) ∧ Im (fz s = 0) (RG σ s gg 0) ∧ ∃ h, Im (fz s = 0) (GS s gg h ∧ GK g h (rF σ gg 7) (rF s gg 7) 0 ∧ OP s gg h it 34 ((rF σ 0 31)) ((rF σ 0 29)) ((rF s 0 29) - more) ((rF s 0 29)) 0 ∧ LI s gg h it 1 34 last ∧ ok1)
def mu_X14_readRow_52 (σ : rS) (gg : Nat) (g : Nat → Int → Int) (s : rS) (it : Int) (last : Int) (more : Int) : Nat := (1 + (4004 - (rF s 0 29)).toNat + more.toNat)
def inv_X14_readRow_132 (σ : rS) (gg : Nat) (g : Nat → Int → Int) (m52 : Nat) (s : rS) (it : Int) (one : Int) : Prop := NBQ σ s gg 0 0 0 0 (rF σ 0 31) ∧ rNMp s ∧ WNp s ∧ PNp s ∧ it = (rF σ gg 7) ∧ it < (rF s gg 7) ∧ (rF σ 0 29) + 1 ≤ (rF s 0 29) ∧ (rF s gg 7) + 3 * (rF s 0 38) + 4 * (rF σ 0 29) + 2 ≤ (rF σ gg 7) + 3 * (rF σ 0 38) + 4 * (rF s 0 29) + 4 * fz s ∧ (rF σ gg 7) < one ∧ one < (rF s gg 7) ∧ (4004 - (rF s 0 29)).toNat + 2 ≤ m52 ∧ Im (fz s = 0) (RG σ s gg 0) ∧ ∃ h, Im (fz s = 0) (GS s gg h ∧ GK g h (rF σ gg 7) (rF s gg 7) 0 ∧ OP s gg h it 34 ((rF σ 0 31)) ((rF σ 0 29)) ((rF s 0 29)) ((rF s 0 29)) 0 ∧ LI s gg h it 1 34 one ∧ ok1)
def VC_X14_readRow (n : Nat) (σ : rS) (gg : Nat) (g : Nat → Int → Int) (Q : Int → rS → Prop) : Prop := rgk (rR σ 7) ∧ pre_X14_place σ ∧ (∀ (v6 : Int), rng v6 → post_X14_place σ v6 → pre_X14_node_t σ 34 0 0 v6 gg ∧ (∀ (v9 : Int) (s9 : rS), rng v9 → rWF s9 → (rNMp σ → rNMp s9) → (TPRp σ → TPRp s9) → (WNp σ → WNp s9) → (CCp σ → CCp s9) → rR s9 7 = rR σ 7 → rF s9 0 10 = rF σ 0 10 → rF s9 0 14 = rF σ 0 14 → rF s9 0 19 = rF σ 0 19 → rF s9 0 28 = rF σ 0 28 → rF s9 0 29 = rF σ 0 29 → rF s9 0 30 = rF σ 0 30 → rF s9 0 31 = rF σ 0 31 → rF s9 0 32 = rF σ 0 32 → rF s9 0 33 = rF σ 0 33 → rF s9 0 38 = rF σ 0 38 → rF s9 0 39 = rF σ 0 39 → (∀ i, rA s9 1026 i = rA σ 1026 i) → rF s9 (rR σ 7) 9 = rF σ (rR σ 7) 9 → rF s9 (rR σ 7) 12 = rF σ (rR σ 7) 12 → rF s9 (rR σ 7) 32 = rF σ (rR σ 7) 32 → rF s9 (rR σ 7) 38 = rF σ (rR σ 7) 38 → fz s9 = fz σ → post_X14_node_t σ 34 0 0 v6 gg v9 s9 → (rng (rF σ 0 29) → rng ((rF σ 0 29) + 1) ∧ pre_X14_blanks (sF s9 0 29 ((rF σ 0 29) + 1)) ∧ (∀ (s24 : rS), rWF s24 → (rNMp (sF s9 0 29 ((rF σ 0 29) + 1)) → rNMp s24) → (TPRp (sF s9 0 29 ((rF σ 0 29) + 1)) → TPRp s24) → (WNp (sF s9 0 29 ((rF σ 0 29) + 1)) → WNp s24) → (PNp (sF s9 0 29 ((rF σ 0 29) + 1)) → PNp s24) → (CCp (sF s9 0 29 ((rF σ 0 29) + 1)) → CCp s24) → rR s24 7 = rR (sF s9 0 29 ((rF σ 0 29) + 1)) 7 → rF s24 0 10 = rF (sF s9 0 29 ((rF σ 0 29) + 1)) 0 10 → rF s24 0 14 = rF (sF s9 0 29 ((rF σ 0 29) + 1)) 0 14 → rF s24 0 19 = rF (sF s9 0 29 ((rF σ 0 29) + 1)) 0 19 → rF s24 0 28 = rF (sF s9 0 29 ((rF σ 0 29) + 1)) 0 28 → rF s24 0 30 = rF (sF s9 0 29 ((rF σ 0 29) + 1)) 0 30 → rF s24 0 31 = rF (sF s9 0 29 ((rF σ 0 29) + 1)) 0 31 → rF s24 0 32 = rF (sF s9 0 29 ((rF σ 0 29) + 1)) 0 32 → rF s24 0 33 = rF (sF s9 0 29 ((rF σ 0 29) + 1)) 0 33 → rF s24 0 38 = rF (sF s9 0 29 ((rF σ 0 29) + 1)) 0 38 → rF s24 0 39 = rF (sF s9 0 29 ((rF σ 0 29) + 1)) 0 39 → (∀ i, rA s24 1026 i = rA (sF s9 0 29 ((rF σ 0 29) + 1)) 1026 i) → rF s24 (rR σ 7) 7 = rF (sF s9 0 29 ((rF σ 0 29) + 1)) (rR σ 7) 7 → rF s24 (rR σ 7) 9 = rF (sF s9 0 29 ((rF σ 0 29) + 1)) (rR σ 7) 9 → rF s24 (rR σ 7) 12 = rF (sF s9 0 29 ((rF σ 0 29) + 1)) (rR σ 7) 12 → rF s24 (rR σ 7) 32 = rF (sF s9 0 29 ((rF σ 0 29) + 1)) (rR σ 7) 32 → rF s24 (rR σ 7) 38 = rF (sF s9 0 29 ((rF σ 0 29) + 1)) (rR σ 7) 38 → fz s24 = fz (sF s9 0 29 ((rF σ 0 29) + 1)) → RG (sF s9 0 29 ((rF σ 0 29) + 1)) s24 (rR σ 7) 0 → post_X14_blanks (sF s9 0 29 ((rF σ 0 29) + 1)) s24 → pre_X14_here s24 ∧ (∀ (v28 : Int), rng v28 → post_X14_here s24 v28 → ((¬ v28 = 93 → (inv_X14_readRow_52 σ gg g s24 v9 0 1)) ∧ (v28 = 93 → (rng (rF s24 0 29) → rng ((rF s24 0 29) + 1) ∧ Q v9 (sF s24 0 29 ((rF s24 0 29) + 1))))))))))
def VC_X14_readRow_132 (n : Nat) (σ : rS) (gg : Nat) (g : Nat → Int → Int) (Q : Int → rS → Prop) : Prop := ∀ (m52 : Nat) (s132 : rS) (y132_1 : Int) (y132_4 : Int), rWF s132 → rng y132_1 → rng y132_4 → (TPRp σ → TPRp s132) → (CCp σ → CCp s132) → rR s132 7 = rR σ 7 → rF s132 0 14 = rF σ 0 14 → rF s132 0 19 = rF σ 0 19 → rF s132 0 28 = rF σ 0 28 → rF s132 0 30 = rF σ 0 30 → rF s132 0 32 = rF σ 0 32 → rF s132 0 33 = rF σ 0 33 → (∀ i, rA s132 1026 i = rA σ 1026 i) → inv_X14_readRow_132 σ gg g m52 s132 y132_1 y132_4 → (pre_X14_blanks s132 ∧ (∀ (s136 : rS), rWF s136 → (rNMp s132 → rNMp s136) → (TPRp s132 → TPRp s136) → (WNp s132 → WNp s136) → (PNp s132 → PNp s136) → (CCp s132 → CCp s136) → rR s136 7 = rR s132 7 → rF s136 0 10 = rF s132 0 10 → rF s136 0 14 = rF s132 0 14 → rF s136 0 19 = rF s132 0 19 → rF s136 0 28 = rF s132 0 28 → rF s136 0 30 = rF s132 0 30 → rF s136 0 31 = rF s132 0 31 → rF s136 0 32 = rF s132 0 32 → rF s136 0 33 = rF s132 0 33 → rF s136 0 38 = rF s132 0 38 → rF s136 0 39 = rF s132 0 39 → (∀ i, rA s136 1026 i = rA s132 1026 i) → rF s136 (rR σ 7) 7 = rF s132 (rR σ 7) 7 → rF s136 (rR σ 7) 9 = rF s132 (rR σ 7) 9 → rF s136 (rR σ 7) 12 = rF s132 (rR σ 7) 12 → rF s136 (rR σ 7) 32 = rF s132 (rR σ 7) 32 → rF s136 (rR σ 7) 38 = rF s132 (rR σ 7) 38 → fz s136 = fz s132 → RG s132 s136 (rR σ 7) 0 → post_X14_blanks s132 s136 → pre_X14_here s136 ∧ (∀ (v140 : Int), rng v140 → post_X14_here s136 v140 → ((¬ v140 = 44 → (inv_X14_readRow_52 σ gg g s136 y132_1 y132_4 0 ∧ (mu_X14_readRow_52 σ gg g s136 y132_1 y132_4 0) < m52)) ∧ (v140 = 44 → (rng (rF s136 0 29) → rng ((rF s136 0 29) + 1) ∧ (inv_X14_readRow_52 σ gg g (sF s136 0 29 ((rF s136 0 29) + 1)) y132_1 y132_4 1 ∧ (mu_X14_readRow_52 σ gg g (sF s136 0 29 ((rF s136 0 29) + 1)) y132_1 y132_4 1) < m52)))))))
def VC_X14_readRow_52 (n : Nat) (σ : rS) (gg : Nat) (g : Nat → Int → Int) (Q : Int → rS → Prop) : Prop := ∀ (s52 : rS) (y52_1 : Int) (y52_2 : Int) (y52_3 : Int), rWF s52 → rng y52_1 → rng y52_2 → rng y52_3 → (TPRp σ → TPRp s52) → (CCp σ → CCp s52) → rR s52 7 = rR σ 7 → rF s52 0 14 = rF σ 0 14 → rF s52 0 19 = rF σ 0 19 → rF s52 0 28 = rF σ 0 28 → rF s52 0 30 = rF σ 0 30 → rF s52 0 32 = rF σ 0 32 → rF s52 0 33 = rF σ 0 33 → (∀ i, rA s52 1026 i = rA σ 1026 i) → inv_X14_readRow_52 σ gg g s52 y52_1 y52_2 y52_3 → (((y52_3 = 0 → pre_X14_need s52 93 ∧ (∀ (s174 : rS), rWF s174 → (rNMp s52 → rNMp s174) → (TPRp s52 → TPRp s174) → (WNp s52 → WNp s174) → (PNp s52 → PNp s174) → (CCp s52 → CCp s174) → rR s174 7 = rR s52 7 → rF s174 0 14 = rF s52 0 14 → rF s174 0 19 = rF s52 0 19 → rF s174 0 28 = rF s52 0 28 → rF s174 0 30 = rF s52 0 30 → rF s174 0 31 = rF s52 0 31 → rF s174 0 32 = rF s52 0 32 → rF s174 0 33 = rF s52 0 33 → rF s174 0 38 = rF s52 0 38 → rF s174 0 39 = rF s52 0 39 → (∀ i, rA s174 1026 i = rA s52 1026 i) → rF s174 (rR σ 7) 7 = rF s52 (rR σ 7) 7 → rF s174 (rR σ 7) 9 = rF s52 (rR σ 7) 9 → rF s174 (rR σ 7) 12 = rF s52 (rR σ 7) 12 → rF s174 (rR σ 7) 32 = rF s52 (rR σ 7) 32 → rF s174 (rR σ 7) 38 = rF s52 (rR σ 7) 38 → RG s52 s174 (rR σ 7) 0 → post_X14_need s52 93 s174 → Q y52_1 s174)) ∧ (¬ y52_3 = 0 → (rng (rF s52 0 10) → ((¬ (rF s52 0 10) = 0 → pre_X14_need s52 93 ∧ (∀ (s174 : rS), rWF s174 → (rNMp s52 → rNMp s174) → (TPRp s52 → TPRp s174) → (WNp s52 → WNp s174) → (PNp s52 → PNp s174) → (CCp s52 → CCp s174) → rR s174 7 = rR s52 7 → rF s174 0 14 = rF s52 0 14 → rF s174 0 19 = rF s52 0 19 → rF s174 0 28 = rF s52 0 28 → rF s174 0 30 = rF s52 0 30 → rF s174 0 31 = rF s52 0 31 → rF s174 0 32 = rF s52 0 32 → rF s174 0 33 = rF s52 0 33 → rF s174 0 38 = rF s52 0 38 → rF s174 0 39 = rF s52 0 39 → (∀ i, rA s174 1026 i = rA s52 1026 i) → rF s174 (rR σ 7) 7 = rF s52 (rR σ 7) 7 → rF s174 (rR σ 7) 9 = rF s52 (rR σ 7) 9 → rF s174 (rR σ 7) 12 = rF s52 (rR σ 7) 12 → rF s174 (rR σ 7) 32 = rF s52 (rR σ 7) 32 → rF s174 (rR σ 7) 38 = rF s52 (rR σ 7) 38 → RG s52 s174 (rR σ 7) 0 → post_X14_need s52 93 s174 → Q y52_1 s174)) ∧ ((rF s52 0 10) = 0 → pre_X14_blanks s52 ∧ (∀ (s64 : rS), rWF s64 → (rNMp s52 → rNMp s64) → (TPRp s52 → TPRp s64) → (WNp s52 → WNp s64) → (PNp s52 → PNp s64) → (CCp s52 → CCp s64) → rR s64 7 = rR s52 7 → rF s64 0 10 = rF s52 0 10 → rF s64 0 14 = rF s52 0 14 → rF s64 0 19 = rF s52 0 19 → rF s64 0 28 = rF s52 0 28 → rF s64 0 30 = rF s52 0 30 → rF s64 0 31 = rF s52 0 31 → rF s64 0 32 = rF s52 0 32 → rF s64 0 33 = rF s52 0 33 → rF s64 0 38 = rF s52 0 38 → rF s64 0 39 = rF s52 0 39 → (∀ i, rA s64 1026 i = rA s52 1026 i) → rF s64 (rR σ 7) 7 = rF s52 (rR σ 7) 7 → rF s64 (rR σ 7) 9 = rF s52 (rR σ 7) 9 → rF s64 (rR σ 7) 12 = rF s52 (rR σ 7) 12 → rF s64 (rR σ 7) 32 = rF s52 (rR σ 7) 32 → rF s64 (rR σ 7) 38 = rF s52 (rR σ 7) 38 → fz s64 = fz s52 → RG s52 s64 (rR σ 7) 0 → post_X14_blanks s52 s64 → pre_X14_here s64 ∧ (∀ (v71 : Int), rng v71 → post_X14_here s64 v71 → ((v71 = 44 → pre_X14_node_t s64 59 0 0 0 gg ∧ (∀ (v98 : Int) (s98 : rS), rng v98 → rWF s98 → (rNMp s64 → rNMp s98) → (TPRp s64 → TPRp s98) → (WNp s64 → WNp s98) → (CCp s64 → CCp s98) → rR s98 7 = rR s64 7 → rF s98 0 10 = rF s64 0 10 → rF s98 0 14 = rF s64 0 14 → rF s98 0 19 = rF s64 0 19 → rF s98 0 28 = rF s64 0 28 → rF s98 0 29 = rF s64 0 29 → rF s98 0 30 = rF s64 0 30 → rF s98 0 31 = rF s64 0 31 → rF s98 0 32 = rF s64 0 32 → rF s98 0 33 = rF s64 0 33 → rF s98 0 38 = rF s64 0 38 → rF s98 0 39 = rF s64 0 39 → (∀ i, rA s98 1026 i = rA s64 1026 i) → rF s98 (rR σ 7) 9 = rF s64 (rR σ 7) 9 → rF s98 (rR σ 7) 12 = rF s64 (rR σ 7) 12 → rF s98 (rR σ 7) 32 = rF s64 (rR σ 7) 32 → rF s98 (rR σ 7) 38 = rF s64 (rR σ 7) 38 → fz s98 = fz s64 → post_X14_node_t s64 59 0 0 0 gg v98 s98 → ((¬ y52_2 = 0 → (0 ≤ y52_2 ∧ y52_2 < 50000) ∧ (inv_X14_readRow_132 σ gg g (mu_X14_readRow_52 σ gg g s52 y52_1 y52_2 y52_3) (sT s98 (rR σ 7) 5 y52_2 v98) y52_1 v98)) ∧ (y52_2 = 0 → (0 ≤ y52_1 ∧ y52_1 < 50000) ∧ (inv_X14_readRow_132 σ gg g (mu_X14_readRow_52 σ gg g s52 y52_1 y52_2 y52_3) (sT s98 (rR σ 7) 1 y52_1 v98) y52_1 v98))))) ∧ (¬ v71 = 44 → pre_X14_here s64 ∧ (∀ (v80 : Int), rng v80 → post_X14_here s64 v80 → ((¬ v80 = 93 → ∃ (g30 : Nat → Int → Int), pre_X14_readArg s64 gg g30 ∧ rk_X14_readArg s64 gg g30 ≤ n ∧ (∀ (v93 : Int) (s93 : rS), rng v93 → rWF s93 → (TPRp s64 → TPRp s93) → (CCp s64 → CCp s93) → rR s93 7 = rR s64 7 → rF s93 0 14 = rF s64 0 14 → rF s93 0 19 = rF s64 0 19 → rF s93 0 28 = rF s64 0 28 → rF s93 0 30 = rF s64 0 30 → rF s93 0 32 = rF s64 0 32 → rF s93 0 33 = rF s64 0 33 → (∀ i, rA s93 1026 i = rA s64 1026 i) → post_X14_readArg s64 gg g30 v93 s93 → pre_X14_node_t s93 59 v93 0 0 gg ∧ (∀ (v98 : Int) (s98 : rS), rng v98 → rWF s98 → (rNMp s93 → rNMp s98) → (TPRp s93 → TPRp s98) → (WNp s93 → WNp s98) → (CCp s93 → CCp s98) → rR s98 7 = rR s93 7 → rF s98 0 10 = rF s93 0 10 → rF s98 0 14 = rF s93 0 14 → rF s98 0 19 = rF s93 0 19 → rF s98 0 28 = rF s93 0 28 → rF s98 0 29 = rF s93 0 29 → rF s98 0 30 = rF s93 0 30 → rF s98 0 31 = rF s93 0 31 → rF s98 0 32 = rF s93 0 32 → rF s98 0 33 = rF s93 0 33 → rF s98 0 38 = rF s93 0 38 → rF s98 0 39 = rF s93 0 39 → (∀ i, rA s98 1026 i = rA s93 1026 i) → rF s98 (rR σ 7) 9 = rF s93 (rR σ 7) 9 → rF s98 (rR σ 7) 12 = rF s93 (rR σ 7) 12 → rF s98 (rR σ 7) 32 = rF s93 (rR σ 7) 32 → rF s98 (rR σ 7) 38 = rF s93 (rR σ 7) 38 → fz s98 = fz s93 → post_X14_node_t s93 59 v93 0 0 gg v98 s98 → ((¬ y52_2 = 0 → (0 ≤ y52_2 ∧ y52_2 < 50000) ∧ (inv_X14_readRow_132 σ gg g (mu_X14_readRow_52 σ gg g s52 y52_1 y52_2 y52_3) (sT s98 (rR σ 7) 5 y52_2 v98) y52_1 v98)) ∧ (y52_2 = 0 → (0 ≤ y52_1 ∧ y52_1 < 50000) ∧ (inv_X14_readRow_132 σ gg g (mu_X14_readRow_52 σ gg g s52 y52_1 y52_2 y52_3) (sT s98 (rR σ 7) 1 y52_1 v98) y52_1 v98)))))) ∧ (v80 = 93 → pre_X14_node_t s64 59 0 0 0 gg ∧ (∀ (v98 : Int) (s98 : rS), rng v98 → rWF s98 → (rNMp s64 → rNMp s98) → (TPRp s64 → TPRp s98) → (WNp s64 → WNp s98) → (CCp s64 → CCp s98) → rR s98 7 = rR s64 7 → rF s98 0 10 = rF s64 0 10 → rF s98 0 14 = rF s64 0 14 → rF s98 0 19 = rF s64 0 19 → rF s98 0 28 = rF s64 0 28 → rF s98 0 29 = rF s64 0 29 → rF s98 0 30 = rF s64 0 30 → rF s98 0 31 = rF s64 0 31 → rF s98 0 32 = rF s64 0 32 → rF s98 0 33 = rF s64 0 33 → rF s98 0 38 = rF s64 0 38 → rF s98 0 39 = rF s64 0 39 → (∀ i, rA s98 1026 i = rA s64 1026 i) → rF s98 (rR σ 7) 9 = rF s64 (rR σ 7) 9 → rF s98 (rR σ 7) 12 = rF s64 (rR σ 7) 12 → rF s98 (rR σ 7) 32 = rF s64 (rR σ 7) 32 → rF s98 (rR σ 7) 38 = rF s64 (rR σ 7) 38 → fz s98 = fz s64 → post_X14_node_t s64 59 0 0 0 gg v98 s98 → ((¬ y52_2 = 0 → (0 ≤ y52_2 ∧ y52_2 < 50000) ∧ (inv_X14_readRow_132 σ gg g (mu_X14_readRow_52 σ gg g s52 y52_1 y52_2 y52_3) (sT s98 (rR σ 7) 5 y52_2 v98) y52_1 v98)) ∧ (y52_2 = 0 → (0 ≤ y52_1 ∧ y52_1 < 50000) ∧ (inv_X14_readRow_132 σ gg g (mu_X14_readRow_52 σ gg g s52 y52_1 y52_2 y52_3) (sT s98 (rR σ 7) 1 y52_1 v98) y52_1 v98)))))))))))))))))
def VC_X14_readRow_52m (n : Nat) (σ : rS) (gg : Nat) (g : Nat → Int → Int) : Prop := ∀ (s52 : rS) (y52_1 : Int) (y52_2 : Int) (y52_3 : Int), rWF s52 → rng y52_1 → rng y52_2 → rng y52_3 → (TPRp σ → TPRp s52) → (CCp σ → CCp s52) → rR s52 7 = rR σ 7 → rF s52 0 14 = rF σ 0 14 → rF s52 0 19 = rF σ 0 19 → rF s52 0 28 = rF σ 0 28 → rF s52 0 30 = rF σ 0 30 → rF s52 0 32 = rF σ 0 32 → rF s52 0 33 = rF σ 0 33 → (∀ i, rA s52 1026 i = rA σ 1026 i) → inv_X14_readRow_52 σ gg g s52 y52_1 y52_2 y52_3 → 0 < (mu_X14_readRow_52 σ gg g s52 y52_1 y52_2 y52_3)
set_option maxHeartbeats 20000000 in
theorem vX14_readRow (n : Nat) (σ : rS) (gg : Nat) (g : Nat → Int → Int) (hwf : rWF σ) (hp : pre_X14_readRow σ gg g) (hr : rk_X14_readRow σ gg g ≤ n + 1) : VC_X14_readRow n σ gg g (post_X14_readRow σ gg g) := by
  unfold pre_X14_readRow at hp
  obtain ⟨hp_1, hp_2, hp_3, hp_4, hp_5, hp_6, hp_7, hp_8, hp_9, hp_10⟩ := hp
  subst hp_1
  unfold rk_X14_readRow at hr
  have hN := hp_4
  unfold NBP at hN
  have hC := hp_3
  unfold CCp at hC
  obtain ⟨hC1, hC⟩ := hC
  have zr0 := fz_rng σ
  have hr2 : fz σ = 0 → 16 * (21 - rF σ 0 31).toNat + 4 ≤ n + 1 := fun h => by rw [if_pos h] at hr; exact hr
  have hr3 : 4 ≤ n + 1 := by have := hr; split at this <;> omega
  clear hr
  unfold VC_X14_readRow
  refine ⟨(by (all_goals (repeat' (first | with_reducible intro _ | with_reducible apply And.intro))); all_goals (first | assumption | trivial | (unfold NBP; omega) | (unfold NBQ; omega) | omega | (have zz_ := fz_z (by assumption); omega) | (split <;> omega) | done)), ?_⟩
  refine ⟨(by (try simp only [pre_X14_place]); (all_goals (repeat' (first | with_reducible intro _ | with_reducible apply And.intro | with_reducible refine Exists.intro g ?_ | with_reducible refine Im.and ?_ ?_))); all_goals (first | assumption | trivial | ((with_reducible refine Im.i fun hf_ => ?_); first | exact ((fun _ => RG.rf) hf_) | exact (hp_8 hf_) | exact ((fun _ => GK.rf) hf_) | exact ok1.i | (exact LI.z (fun h => absurd h (by decide))) | (exact absurd hf_ (by omega)) | omega) | (unfold NBP; omega) | (unfold NBQ; omega) | omega | (have zz_ := fz_z (by assumption); omega) | (split <;> omega) | done)), ?_⟩
  intro v6 hv6 q6
  unfold rng at hv6
  unfold post_X14_place at q6
  obtain ⟨q6_1, q6_2⟩ := q6
  (try simp only [NBP, NBQ] at q6_1 q6_2)
  refine ⟨(by (try simp only [pre_X14_node_t]); (all_goals (repeat' (first | with_reducible intro _ | with_reducible apply And.intro | with_reducible refine Exists.intro g ?_ | with_reducible refine Im.and ?_ ?_))); all_goals (first | assumption | trivial | ((with_reducible refine Im.i fun hf_ => ?_); first | exact ((fun _ => RG.rf) hf_) | exact (hp_8 hf_) | exact ((fun _ => GK.rf) hf_) | exact ok1.i | (exact LI.z (fun h => absurd h (by decide))) | (exact absurd hf_ (by omega)) | omega) | (unfold NBP; omega) | (unfold NBQ; omega) | omega | (have zz_ := fz_z (by assumption); omega) | (split <;> omega) | done)), ?_⟩
  intro v9 s9 hv9 Ws9 e9_0 e9_1 e9_2 e9_3 e9_4 e9_5 e9_6 e9_7 e9_8 e9_9 e9_10 e9_11 e9_12 e9_13 e9_14 e9_15 e9_16 e9_17 e9_18 e9_19 e9_20 e9_21 q9
  unfold rng at hv9
  unfold post_X14_node_t at q9
  obtain ⟨q9_1, q9_2, q9_3, q9_4, q9_5, q9_6, q9_7, q9_8, q9_9, q9_10⟩ := q9
  (try simp only [NBP, NBQ] at q9_1 q9_2 q9_3 q9_4 q9_5 q9_6 q9_7 q9_8 q9_9 q9_10 e9_0 e9_1 e9_2 e9_3 e9_4 e9_5 e9_6 e9_7 e9_8 e9_9 e9_10 e9_11 e9_12 e9_13 e9_14 e9_15 e9_16 e9_17 e9_18 e9_19 e9_20 e9_21)
  have Ks9 : rR s9 7 = rR σ 7 := by first | assumption | ((try simp only [rR_sF, rR_sA, rR_sT, rR_sL] at e9_0 e9_1 e9_2 e9_3 e9_4 e9_5 e9_6 e9_7 e9_8 e9_9 e9_10 e9_11 e9_12 e9_13 e9_14 e9_15 e9_16 e9_17 e9_18 e9_19 e9_20 e9_21); omega)
  have zr9 := fz_rng s9
  have zc9 : fz s9 = 0 → fz σ = 0 := fun hf => by omega
  have A9 : Im (fz s9 = 0) (RG σ s9 (rR σ 7) 0) := fun hf => RG.trk hp_2 ((fun _ => RG.rf) (zc9 hf)) q9_3 (Or.inr (Or.inl rfl))
  obtain ⟨g9, X9⟩ := EN_34 (P := fz s9 = 0) (rF σ 0 29) (rF σ 0 31) hp_2 (fun hf => hp_8 (zc9 hf)) (fun hf => q9_3) q9_1 q9_2 q9_4 q9_5 q9_6 q9_9 (fun hf => by (try simp only [rF_sT, rF_sA]); (repeat' (with_reducible apply And.intro)) <;> first | trivial | omega)
  have Ku1 : Im (fz s9 = 0) (GK g g9 (rF σ (rR σ 7) 7) (rF s9 (rR σ 7) 7) 0) := fun hf => GK.gs ((fun _ => GK.rf) (zc9 hf)) (X9 hf).2.1
  have Gu2 : Im (fz s9 = 0) _ := fun hf => (X9 hf).1
  have O9 : Im (fz s9 = 0) _ := fun hf => (X9 hf).2.2.1
  have L9_1 : Im (fz s9 = 0) (LI s9 (rR σ 7) g9 v9 1 34 0) := fun hf => LI.z (fun h => (X9 hf).2.2.2)
  have rNMp_9 := e9_0 hp_5; clear e9_0
  have TPRp_9 := e9_1 hC1; clear e9_1
  have WNp_9 := e9_2 hp_6; clear e9_2
  have CCp_9 := e9_3 hp_3; clear e9_3
  intro hr_; unfold rng at hr_
  refine ⟨(by (try simp only [rng, Ks9]); (all_goals (repeat' (first | with_reducible intro _ | with_reducible apply And.intro | with_reducible refine Exists.intro g9 ?_ | with_reducible refine Im.and ?_ ?_))); all_goals (first | assumption | trivial | ((with_reducible refine Im.i fun hf_ => ?_); first | exact (A9 hf_) | exact (Gu2 hf_) | exact (Ku1 hf_) | exact (O9 hf_).cst | exact (L9_1 hf_) | exact ok1.i | (exact LI.z (fun h => absurd h (by decide))) | (exact absurd hf_ (by omega)) | omega) | (unfold NBP; (try simp only [Ks9]); omega) | (unfold NBQ; (try simp only [Ks9]); omega) | omega | (have zz_ := fz_z (by assumption); omega) | (split <;> omega) | done)), ?_⟩
  refine ⟨(by (try simp only [pre_X14_blanks, reduceIte, and_true, true_and, and_false, false_and, and_self, Nat.reduceEqDiff, fz_sF29, rF_sF, rA_sF, rR_sF, tr_sF, rNMp_sF, PNp_sF, GS_F29, OP_F29, NR_F29, LI_F29, RG_l29, RG_r29, TPRp_sF29, WNp_sF29, VMp_sF29, KYp_sF29, PPp_sF29, WFp_sF29, CCp_sF29, rk_n0 hp_2, Ks9]); (all_goals (repeat' (first | with_reducible intro _ | with_reducible apply And.intro | with_reducible refine Exists.intro g9 ?_ | with_reducible refine Im.and ?_ ?_))); all_goals (first | assumption | trivial | ((with_reducible refine Im.i fun hf_ => ?_); first | exact (A9 hf_) | exact (Gu2 hf_) | exact (Ku1 hf_) | exact (O9 hf_).cst | exact (L9_1 hf_) | exact ok1.i | (exact LI.z (fun h => absurd h (by decide))) | (exact absurd hf_ (by omega)) | omega) | (unfold NBP; (try simp only [reduceIte, and_true, true_and, and_false, false_and, and_self, Nat.reduceEqDiff, fz_sF29, rF_sF, rA_sF, rR_sF, tr_sF, rNMp_sF, PNp_sF, GS_F29, OP_F29, NR_F29, LI_F29, RG_l29, RG_r29, TPRp_sF29, WNp_sF29, VMp_sF29, KYp_sF29, PPp_sF29, WFp_sF29, CCp_sF29, rk_n0 hp_2, Ks9]); omega) | (unfold NBQ; (try simp only [reduceIte, and_true, true_and, and_false, false_and, and_self, Nat.reduceEqDiff, fz_sF29, rF_sF, rA_sF, rR_sF, tr_sF, rNMp_sF, PNp_sF, GS_F29, OP_F29, NR_F29, LI_F29, RG_l29, RG_r29, TPRp_sF29, WNp_sF29, VMp_sF29, KYp_sF29, PPp_sF29, WFp_sF29, CCp_sF29, rk_n0 hp_2, Ks9]); omega) | omega | (have zz_ := fz_z (by assumption); omega) | (split <;> omega) | done)), ?_⟩
  intro s24 Ws24 e24_0 e24_1 e24_2 e24_3 e24_4 e24_5 e24_6 e24_7 e24_8 e24_9 e24_10 e24_11 e24_12 e24_13 e24_14 e24_15 e24_16 e24_17 e24_18 e24_19 e24_20 e24_21 e24_22 R24 q24
  have q24 := dig_blanks q24 (by (try simp only [reduceIte, and_true, true_and, and_false, false_and, and_self, Nat.reduceEqDiff, fz_sF29, rF_sF, rA_sF, rR_sF, tr_sF, rNMp_sF, PNp_sF, GS_F29, OP_F29, NR_F29, LI_F29, RG_l29, RG_r29, TPRp_sF29, WNp_sF29, VMp_sF29, KYp_sF29, PPp_sF29, WFp_sF29, CCp_sF29, rk_n0 hp_2, Ks9]); omega)
  obtain ⟨q24_1, q24_2⟩ := q24
  (try simp only [reduceIte, and_true, true_and, and_false, false_and, and_self, Nat.reduceEqDiff, fz_sF29, rF_sF, rA_sF, rR_sF, tr_sF, rNMp_sF, PNp_sF, GS_F29, OP_F29, NR_F29, LI_F29, RG_l29, RG_r29, TPRp_sF29, WNp_sF29, VMp_sF29, KYp_sF29, PPp_sF29, WFp_sF29, CCp_sF29, rk_n0 hp_2, Ks9, NBP, NBQ] at q24_1 q24_2 e24_0 e24_1 e24_2 e24_3 e24_4 e24_5 e24_6 e24_7 e24_8 e24_9 e24_10 e24_11 e24_12 e24_13 e24_14 e24_15 e24_16 e24_17 e24_18 e24_19 e24_20 e24_21 e24_22 R24)
  have Ks24 : rR s24 7 = rR σ 7 := by first | assumption | ((try simp only [rR_sF, rR_sA, rR_sT, rR_sL] at e24_0 e24_1 e24_2 e24_3 e24_4 e24_5 e24_6 e24_7 e24_8 e24_9 e24_10 e24_11 e24_12 e24_13 e24_14 e24_15 e24_16 e24_17 e24_18 e24_19 e24_20 e24_21 e24_22 R24); omega)
  have zr24 := fz_rng s24
  have zc24 : fz s24 = 0 → fz s9 = 0 := fun hf => by omega
  have A24 : Im (fz s24 = 0) (RG σ s24 (rR σ 7) 0) := fun hf => RG.trk hp_2 (A9 (zc24 hf)) R24 (Or.inr (Or.inl rfl))
  have O9u3 : Im (fz s24 = 0) _ := fun hf => OP.gk0 (O9 (zc24 hf)) (GK.up (g := g9) (N := rF s9 (rR σ 7) 7) (N' := rF s24 (rR σ 7) 7) (c := 0) (by first | assumption | omega | (simp only [rF_sT, rF_sA]; omega)))
  have L9_1u4 : Im (fz s24 = 0) _ := fun hf => LI.gk0 hp_2 (L9_1 (zc24 hf)) (O9 (zc24 hf)) R24 (GK.up (g := g9) (N := rF s9 (rR σ 7) 7) (N' := rF s24 (rR σ 7) 7) (c := 0) (by first | assumption | omega | (simp only [rF_sT, rF_sA]; omega)))
  have Ku5 : Im (fz s24 = 0) (GK g g9 (rF σ (rR σ 7) 7) (rF s24 (rR σ 7) 7) 0) := fun hf => GK.trans (Ku1 (zc24 hf)) (GK.up (N := rF s9 (rR σ 7) 7) (N' := rF s24 (rR σ 7) 7) (c := 0) (by first | assumption | omega | (simp only [rF_sT, rF_sA]; omega))) (Or.inr (Or.inl rfl))
  have Gu6 : Im (fz s24 = 0) (GS s24 (rR σ 7) g9) := fun hf => GS.mv hp_2 (Gu2 (zc24 hf)) R24 (by first | assumption | omega | (simp only [rF_sT, rF_sA]; omega)) (by first | (exact Int.le_of_eq (Eq.symm (by assumption))) | omega | (simp only [rF_sT, rF_sA]; omega))
  have rNMp_24 := e24_0 rNMp_9; clear e24_0
  have TPRp_24 := e24_1 TPRp_9; clear e24_1
  have WNp_24 := e24_2 WNp_9; clear e24_2
  have PNp_24 := e24_3 q9_10; clear e24_3
  have CCp_24 := e24_4 CCp_9; clear e24_4
  refine ⟨(by (try simp only [pre_X14_here, Ks24]); (all_goals (repeat' (first | with_reducible intro _ | with_reducible apply And.intro | with_reducible refine Exists.intro g9 ?_ | with_reducible refine Im.and ?_ ?_))); all_goals (first | assumption | trivial | ((with_reducible refine Im.i fun hf_ => ?_); first | exact (A24 hf_) | exact (Gu6 hf_) | exact (Ku5 hf_) | exact (O9u3 hf_).cst | exact (L9_1u4 hf_) | exact ok1.i | (exact LI.z (fun h => absurd h (by decide))) | (exact absurd hf_ (by omega)) | omega) | (unfold NBP; (try simp only [Ks24]); omega) | (unfold NBQ; (try simp only [Ks24]); omega) | omega | (have zz_ := fz_z (by assumption); omega) | (split <;> omega) | done)), ?_⟩
  intro v28 hv28 q28
  unfold rng at hv28
  unfold post_X14_here at q28
  obtain ⟨q28_1, q28_2⟩ := q28
  (try simp only [Ks24, NBP, NBQ] at q28_1 q28_2)
  refine ⟨fun c33 => ?_, fun c33 => ?_⟩
  · exact (by (try simp only [inv_X14_readRow_52, Ks24]); (all_goals (repeat' (first | with_reducible intro _ | with_reducible apply And.intro | with_reducible refine Exists.intro g9 ?_ | with_reducible refine Im.and ?_ ?_))); all_goals (first | assumption | trivial | ((with_reducible refine Im.i fun hf_ => ?_); first | exact (A24 hf_) | exact (Gu6 hf_) | exact (Ku5 hf_) | exact (O9u3 hf_).cst | exact (L9_1u4 hf_) | exact ok1.i | (exact LI.z (fun h => absurd h (by decide))) | (exact absurd hf_ (by omega)) | omega) | (unfold NBP; (try simp only [Ks24]); omega) | (unfold NBQ; (try simp only [Ks24]); omega) | omega | (have zz_ := fz_z (by assumption); omega) | (split <;> omega) | done))
  · intro hr_; unfold rng at hr_
    refine ⟨(by (try simp only [rng, Ks24]); (all_goals (repeat' (first | with_reducible intro _ | with_reducible apply And.intro | with_reducible refine Exists.intro g9 ?_ | with_reducible refine Im.and ?_ ?_))); all_goals (first | assumption | trivial | ((with_reducible refine Im.i fun hf_ => ?_); first | exact (A24 hf_) | exact (Gu6 hf_) | exact (Ku5 hf_) | exact (O9u3 hf_).cst | exact (L9_1u4 hf_) | exact ok1.i | (exact LI.z (fun h => absurd h (by decide))) | (exact absurd hf_ (by omega)) | omega) | (unfold NBP; (try simp only [Ks24]); omega) | (unfold NBQ; (try simp only [Ks24]); omega) | omega | (have zz_ := fz_z (by assumption); omega) | (split <;> omega) | done)), ?_⟩
    obtain ⟨gu123, Xu124⟩ := EC_34 (P := fz s24 = 0) ((rF s24 0 29) + 1) Gu6 O9u3 (fun hf => by omega)
    have O9u125 : Im (fz s24 = 0) _ := fun hf => (Xu124 hf).2.1
    have Ku126 : Im (fz s24 = 0) (GK g gu123 (rF σ (rR σ 7) 7) (rF s24 (rR σ 7) 7) 0) := fun hf => GK.kc (Ku5 hf) (Xu124 hf).2.2 (by omega)
    have Gu127 : Im (fz s24 = 0) _ := fun hf => (Xu124 hf).1
    exact (by (try simp only [post_X14_readRow, reduceIte, and_true, true_and, and_false, false_and, and_self, Nat.reduceEqDiff, fz_sF29, rF_sF, rA_sF, rR_sF, tr_sF, rNMp_sF, PNp_sF, GS_F29, OP_F29, NR_F29, LI_F29, RG_l29, RG_r29, TPRp_sF29, WNp_sF29, VMp_sF29, KYp_sF29, PPp_sF29, WFp_sF29, CCp_sF29, rk_n0 hp_2, Ks24]); (all_goals (repeat' (first | with_reducible intro _ | with_reducible apply And.intro | with_reducible refine Exists.intro gu123 ?_ | with_reducible refine Im.and ?_ ?_))); all_goals (first | assumption | trivial | ((with_reducible refine Im.i fun hf_ => ?_); first | exact (A24 hf_) | exact (Gu127 hf_) | exact (Ku126 hf_) | exact (O9u125 hf_).cst | exact ok1.i | (exact LI.z (fun h => absurd h (by decide))) | (exact absurd hf_ (by omega)) | omega) | (unfold NBP; (try simp only [reduceIte, and_true, true_and, and_false, false_and, and_self, Nat.reduceEqDiff, fz_sF29, rF_sF, rA_sF, rR_sF, tr_sF, rNMp_sF, PNp_sF, GS_F29, OP_F29, NR_F29, LI_F29, RG_l29, RG_r29, TPRp_sF29, WNp_sF29, VMp_sF29, KYp_sF29, PPp_sF29, WFp_sF29, CCp_sF29, rk_n0 hp_2, Ks24]); omega) | (unfold NBQ; (try simp only [reduceIte, and_true, true_and, and_false, false_and, and_self, Nat.reduceEqDiff, fz_sF29, rF_sF, rA_sF, rR_sF, tr_sF, rNMp_sF, PNp_sF, GS_F29, OP_F29, NR_F29, LI_F29, RG_l29, RG_r29, TPRp_sF29, WNp_sF29, VMp_sF29, KYp_sF29, PPp_sF29, WFp_sF29, CCp_sF29, rk_n0 hp_2, Ks24]); omega) | omega | (have zz_ := fz_z (by assumption); omega) | (split <;> omega) | done))
set_option maxHeartbeats 20000000 in
theorem vX14_readRow_132 (n : Nat) (σ : rS) (gg : Nat) (g : Nat → Int → Int) (hwf : rWF σ) (hp : pre_X14_readRow σ gg g) (hr : rk_X14_readRow σ gg g ≤ n + 1) : VC_X14_readRow_132 n σ gg g (post_X14_readRow σ gg g) := by
  unfold pre_X14_readRow at hp
  obtain ⟨hp_1, hp_2, hp_3, hp_4, hp_5, hp_6, hp_7, hp_8, hp_9, hp_10⟩ := hp
  subst hp_1
  unfold rk_X14_readRow at hr
  have hN := hp_4
  unfold NBP at hN
  have hC := hp_3
  unfold CCp at hC
  obtain ⟨hC1, hC⟩ := hC
  have zr0 := fz_rng σ
  have hr2 : fz σ = 0 → 16 * (21 - rF σ 0 31).toNat + 4 ≤ n + 1 := fun h => by rw [if_pos h] at hr; exact hr
  have hr3 : 4 ≤ n + 1 := by have := hr; split at this <;> omega
  clear hr
  unfold VC_X14_readRow_132
  intro m52 s132 y132_1 y132_4 Ws132 hy132_1 hy132_4 e132_0 e132_1 e132_2 e132_3 e132_4 e132_5 e132_6 e132_7 e132_8 e132_9 I132
  have Ks132 : rR s132 7 = rR σ 7 := by omega
  unfold inv_X14_readRow_132 at I132
  obtain ⟨I132_1, I132_2, I132_3, I132_4, I132_5, I132_6, I132_7, I132_8, I132_9, I132_10, I132_11, I132_12, I132_13⟩ := I132
  (try simp only [Ks132, NBP, NBQ] at I132_1 I132_2 I132_3 I132_4 I132_5 I132_6 I132_7 I132_8 I132_9 I132_10 I132_11 I132_12 I132_13)
  have zr132 := fz_rng s132
  have TPRp_132 := e132_0 hC1; clear e132_0
  have CCp_132 := e132_1 hp_3; clear e132_1
  obtain ⟨g132, X132⟩ := I132_13
  have G132 : Im (fz s132 = 0) _ := fun hf => (X132 hf).1
  have KA132 : Im (fz s132 = 0) _ := fun hf => (X132 hf).2.1
  have O132 : Im (fz s132 = 0) _ := fun hf => (X132 hf).2.2.1
  have L132 : Im (fz s132 = 0) _ := fun hf => (X132 hf).2.2.2.1
  refine ⟨(by (try simp only [pre_X14_blanks, Ks132]); (all_goals (repeat' (first | with_reducible intro _ | with_reducible apply And.intro | with_reducible refine Exists.intro g132 ?_ | with_reducible refine Im.and ?_ ?_))); all_goals (first | assumption | trivial | ((with_reducible refine Im.i fun hf_ => ?_); first | exact (I132_12 hf_) | exact (G132 hf_) | exact (KA132 hf_) | exact (O132 hf_).cst | exact (L132 hf_) | exact ok1.i | (exact LI.z (fun h => absurd h (by decide))) | (exact absurd hf_ (by omega)) | omega) | (unfold NBP; (try simp only [Ks132]); omega) | (unfold NBQ; (try simp only [Ks132]); omega) | omega | (have zz_ := fz_z (by assumption); omega) | (split <;> omega) | done)), ?_⟩
  intro s136 Ws136 e136_0 e136_1 e136_2 e136_3 e136_4 e136_5 e136_6 e136_7 e136_8 e136_9 e136_10 e136_11 e136_12 e136_13 e136_14 e136_15 e136_16 e136_17 e136_18 e136_19 e136_20 e136_21 e136_22 R136 q136
  have q136 := dig_blanks q136 (by (try simp only [Ks132]); omega)
  obtain ⟨q136_1, q136_2⟩ := q136
  (try simp only [Ks132, NBP, NBQ] at q136_1 q136_2 e136_0 e136_1 e136_2 e136_3 e136_4 e136_5 e136_6 e136_7 e136_8 e136_9 e136_10 e136_11 e136_12 e136_13 e136_14 e136_15 e136_16 e136_17 e136_18 e136_19 e136_20 e136_21 e136_22 R136)
  have Ks136 : rR s136 7 = rR σ 7 := by first | assumption | ((try simp only [rR_sF, rR_sA, rR_sT, rR_sL] at e136_0 e136_1 e136_2 e136_3 e136_4 e136_5 e136_6 e136_7 e136_8 e136_9 e136_10 e136_11 e136_12 e136_13 e136_14 e136_15 e136_16 e136_17 e136_18 e136_19 e136_20 e136_21 e136_22 R136); omega)
  have zr136 := fz_rng s136
  have zc136 : fz s136 = 0 → fz s132 = 0 := fun hf => by omega
  have A136 : Im (fz s136 = 0) (RG σ s136 (rR σ 7) 0) := fun hf => RG.trk hp_2 (I132_12 (zc136 hf)) R136 (Or.inr (Or.inl rfl))
  have Ou97 : Im (fz s136 = 0) _ := fun hf => OP.gk0 (O132 (zc136 hf)) (GK.up (g := g132) (N := rF s132 (rR σ 7) 7) (N' := rF s136 (rR σ 7) 7) (c := 0) (by first | assumption | omega | (simp only [rF_sT, rF_sA]; omega)))
  have Lu98 : Im (fz s136 = 0) _ := fun hf => LI.gk0 hp_2 (L132 (zc136 hf)) (O132 (zc136 hf)) R136 (GK.up (g := g132) (N := rF s132 (rR σ 7) 7) (N' := rF s136 (rR σ 7) 7) (c := 0) (by first | assumption | omega | (simp only [rF_sT, rF_sA]; omega)))
  have Ku99 : Im (fz s136 = 0) (GK g g132 (rF σ (rR σ 7) 7) (rF s136 (rR σ 7) 7) 0) := fun hf => GK.trans (KA132 (zc136 hf)) (GK.up (N := rF s132 (rR σ 7) 7) (N' := rF s136 (rR σ 7) 7) (c := 0) (by first | assumption | omega | (simp only [rF_sT, rF_sA]; omega))) (Or.inr (Or.inl rfl))
  have Gu100 : Im (fz s136 = 0) (GS s136 (rR σ 7) g132) := fun hf => GS.mv hp_2 (G132 (zc136 hf)) R136 (by first | assumption | omega | (simp only [rF_sT, rF_sA]; omega)) (by first | (exact Int.le_of_eq (Eq.symm (by assumption))) | omega | (simp only [rF_sT, rF_sA]; omega))
  have rNMp_136 := e136_0 I132_2; clear e136_0
  have TPRp_136 := e136_1 TPRp_132; clear e136_1
  have WNp_136 := e136_2 I132_3; clear e136_2
  have PNp_136 := e136_3 I132_4; clear e136_3
  have CCp_136 := e136_4 CCp_132; clear e136_4
  refine ⟨(by (try simp only [pre_X14_here, Ks136]); (all_goals (repeat' (first | with_reducible intro _ | with_reducible apply And.intro | with_reducible refine Exists.intro g132 ?_ | with_reducible refine Im.and ?_ ?_))); all_goals (first | assumption | trivial | ((with_reducible refine Im.i fun hf_ => ?_); first | exact (A136 hf_) | exact (Gu100 hf_) | exact (Ku99 hf_) | exact (Ou97 hf_).cst | exact (Lu98 hf_) | exact ok1.i | (exact LI.z (fun h => absurd h (by decide))) | (exact absurd hf_ (by omega)) | omega) | (unfold NBP; (try simp only [Ks136]); omega) | (unfold NBQ; (try simp only [Ks136]); omega) | omega | (have zz_ := fz_z (by assumption); omega) | (split <;> omega) | done)), ?_⟩
  intro v140 hv140 q140
  unfold rng at hv140
  unfold post_X14_here at q140
  obtain ⟨q140_1, q140_2⟩ := q140
  (try simp only [Ks136, NBP, NBQ] at q140_1 q140_2)
  refine ⟨fun c145 => ?_, fun c145 => ?_⟩
  · exact (by (try simp only [inv_X14_readRow_52, mu_X14_readRow_52, Ks136]); (all_goals (repeat' (first | with_reducible intro _ | with_reducible apply And.intro | with_reducible refine Exists.intro g132 ?_ | with_reducible refine Im.and ?_ ?_))); all_goals (first | assumption | trivial | ((with_reducible refine Im.i fun hf_ => ?_); first | exact (A136 hf_) | exact (Gu100 hf_) | exact (Ku99 hf_) | exact (Ou97 hf_).cst | exact (Lu98 hf_) | exact ok1.i | (exact LI.z (fun h => absurd h (by decide))) | (exact absurd hf_ (by omega)) | omega) | (unfold NBP; (try simp only [Ks136]); omega) | (unfold NBQ; (try simp only [Ks136]); omega) | omega | (have zz_ := fz_z (by assumption); omega) | (split <;> omega) | done))
  · intro hr_; unfold rng at hr_
    refine ⟨(by (try simp only [rng, Ks136]); (all_goals (repeat' (first | with_reducible intro _ | with_reducible apply And.intro | with_reducible refine Exists.intro g132 ?_ | with_reducible refine Im.and ?_ ?_))); all_goals (first | assumption | trivial | ((with_reducible refine Im.i fun hf_ => ?_); first | exact (A136 hf_) | exact (Gu100 hf_) | exact (Ku99 hf_) | exact (Ou97 hf_).cst | exact (Lu98 hf_) | exact ok1.i | (exact LI.z (fun h => absurd h (by decide))) | (exact absurd hf_ (by omega)) | omega) | (unfold NBP; (try simp only [Ks136]); omega) | (unfold NBQ; (try simp only [Ks136]); omega) | omega | (have zz_ := fz_z (by assumption); omega) | (split <;> omega) | done)), ?_⟩
    exact (by (try simp only [inv_X14_readRow_52, mu_X14_readRow_52, reduceIte, and_true, true_and, and_false, false_and, and_self, Nat.reduceEqDiff, fz_sF29, rF_sF, rA_sF, rR_sF, tr_sF, rNMp_sF, PNp_sF, GS_F29, OP_F29, NR_F29, LI_F29, RG_l29, RG_r29, TPRp_sF29, WNp_sF29, VMp_sF29, KYp_sF29, PPp_sF29, WFp_sF29, CCp_sF29, rk_n0 hp_2, Ks136]); (all_goals (repeat' (first | with_reducible intro _ | with_reducible apply And.intro | with_reducible refine Exists.intro g132 ?_ | with_reducible refine Im.and ?_ ?_))); all_goals (first | assumption | trivial | ((with_reducible refine Im.i fun hf_ => ?_); first | exact (A136 hf_) | exact (Gu100 hf_) | exact (Ku99 hf_) | exact (Ou97 hf_).cst | exact (Lu98 hf_) | exact ok1.i | (exact LI.z (fun h => absurd h (by decide))) | (exact absurd hf_ (by omega)) | omega) | (unfold NBP; (try simp only [reduceIte, and_true, true_and, and_false, false_and, and_self, Nat.reduceEqDiff, fz_sF29, rF_sF, rA_sF, rR_sF, tr_sF, rNMp_sF, PNp_sF, GS_F29, OP_F29, NR_F29, LI_F29, RG_l29, RG_r29, TPRp_sF29, WNp_sF29, VMp_sF29, KYp_sF29, PPp_sF29, WFp_sF29, CCp_sF29, rk_n0 hp_2, Ks136]); omega) | (unfold NBQ; (try simp only [reduceIte, and_true, true_and, and_false, false_and, and_self, Nat.reduceEqDiff, fz_sF29, rF_sF, rA_sF, rR_sF, tr_sF, rNMp_sF, PNp_sF, GS_F29, OP_F29, NR_F29, LI_F29, RG_l29, RG_r29, TPRp_sF29, WNp_sF29, VMp_sF29, KYp_sF29, PPp_sF29, WFp_sF29, CCp_sF29, rk_n0 hp_2, Ks136]); omega) | omega | (have zz_ := fz_z (by assumption); omega) | (split <;> omega) | done))
set_option maxHeartbeats 20000000 in
theorem vX14_readRow_52 (n : Nat) (σ : rS) (gg : Nat) (g : Nat → Int → Int) (hwf : rWF σ) (hp : pre_X14_readRow σ gg g) (hr : rk_X14_readRow σ gg g ≤ n + 1) : VC_X14_readRow_52 n σ gg g (post_X14_readRow σ gg g) := by
  unfold pre_X14_readRow at hp
  obtain ⟨hp_1, hp_2, hp_3, hp_4, hp_5, hp_6, hp_7, hp_8, hp_9, hp_10⟩ := hp
  subst hp_1
  unfold rk_X14_readRow at hr
  have hN := hp_4
  unfold NBP at hN
  have hC := hp_3
  unfold CCp at hC
  obtain ⟨hC1, hC⟩ := hC
  have zr0 := fz_rng σ
  have hr2 : fz σ = 0 → 16 * (21 - rF σ 0 31).toNat + 4 ≤ n + 1 := fun h => by rw [if_pos h] at hr; exact hr
  have hr3 : 4 ≤ n + 1 := by have := hr; split at this <;> omega
  clear hr
  unfold VC_X14_readRow_52
  intro s52 y52_1 y52_2 y52_3 Ws52 hy52_1 hy52_2 hy52_3 e52_0 e52_1 e52_2 e52_3 e52_4 e52_5 e52_6 e52_7 e52_8 e52_9 I52
  have Ks52 : rR s52 7 = rR σ 7 := by omega
  unfold inv_X14_readRow_52 at I52
  obtain ⟨I52_1, I52_2, I52_3, I52_4, I52_5, I52_6, I52_7, I52_8, I52_9, I52_10, I52_11, I52_12, I52_13, I52_14⟩ := I52
  (try simp only [Ks52, NBP, NBQ] at I52_1 I52_2 I52_3 I52_4 I52_5 I52_6 I52_7 I52_8 I52_9 I52_10 I52_11 I52_12 I52_13 I52_14)
  have zr52 := fz_rng s52
  have TPRp_52 := e52_0 hC1; clear e52_0
  have CCp_52 := e52_1 hp_3; clear e52_1
  obtain ⟨g52, X52⟩ := I52_14
  have G52 : Im (fz s52 = 0) _ := fun hf => (X52 hf).1
  have KA52 : Im (fz s52 = 0) _ := fun hf => (X52 hf).2.1
  have O52 : Im (fz s52 = 0) _ := fun hf => (X52 hf).2.2.1
  have L52 : Im (fz s52 = 0) _ := fun hf => (X52 hf).2.2.2.1
  refine ⟨fun c53 => ?_, fun c53 => ?_⟩
  · refine ⟨(by (try simp only [pre_X14_need, Ks52]); (all_goals (repeat' (first | with_reducible intro _ | with_reducible apply And.intro | with_reducible refine Exists.intro g52 ?_ | with_reducible refine Im.and ?_ ?_))); all_goals (first | assumption | trivial | ((with_reducible refine Im.i fun hf_ => ?_); first | exact (I52_13 hf_) | exact (G52 hf_) | exact (KA52 hf_) | exact (O52 hf_).cst | exact (L52 hf_) | exact ok1.i | (exact LI.z (fun h => absurd h (by decide))) | (exact absurd hf_ (by omega)) | omega) | (unfold NBP; (try simp only [Ks52]); omega) | (unfold NBQ; (try simp only [Ks52]); omega) | omega | (have zz_ := fz_z (by assumption); omega) | (split <;> omega) | done)), ?_⟩
    intro s174 Ws174 e174_0 e174_1 e174_2 e174_3 e174_4 e174_5 e174_6 e174_7 e174_8 e174_9 e174_10 e174_11 e174_12 e174_13 e174_14 e174_15 e174_16 e174_17 e174_18 e174_19 e174_20 R174 q174
    have q174 := dig_need q174 (by (try simp only [Ks52]); omega)
    obtain ⟨q174_1, q174_2, q174_3, q174_4⟩ := q174
    (try simp only [Ks52, NBP, NBQ] at q174_1 q174_2 q174_3 q174_4 e174_0 e174_1 e174_2 e174_3 e174_4 e174_5 e174_6 e174_7 e174_8 e174_9 e174_10 e174_11 e174_12 e174_13 e174_14 e174_15 e174_16 e174_17 e174_18 e174_19 e174_20 R174)
    have Ks174 : rR s174 7 = rR σ 7 := by first | assumption | ((try simp only [rR_sF, rR_sA, rR_sT, rR_sL] at e174_0 e174_1 e174_2 e174_3 e174_4 e174_5 e174_6 e174_7 e174_8 e174_9 e174_10 e174_11 e174_12 e174_13 e174_14 e174_15 e174_16 e174_17 e174_18 e174_19 e174_20 R174); omega)
    have zr174 := fz_rng s174
    have zc174 : fz s174 = 0 → fz s52 = 0 := fun hf => by omega
    have A174 : Im (fz s174 = 0) (RG σ s174 (rR σ 7) 0) := fun hf => RG.trk hp_2 (I52_13 (zc174 hf)) R174 (Or.inr (Or.inl rfl))
    have Ou7 : Im (fz s174 = 0) _ := fun hf => OP.gk0 (O52 (zc174 hf)) (GK.up (g := g52) (N := rF s52 (rR σ 7) 7) (N' := rF s174 (rR σ 7) 7) (c := 0) (by first | assumption | omega | (simp only [rF_sT, rF_sA]; omega)))
    have Lu8 : Im (fz s174 = 0) _ := fun hf => LI.gk0 hp_2 (L52 (zc174 hf)) (O52 (zc174 hf)) R174 (GK.up (g := g52) (N := rF s52 (rR σ 7) 7) (N' := rF s174 (rR σ 7) 7) (c := 0) (by first | assumption | omega | (simp only [rF_sT, rF_sA]; omega)))
    have Ku9 : Im (fz s174 = 0) (GK g g52 (rF σ (rR σ 7) 7) (rF s174 (rR σ 7) 7) 0) := fun hf => GK.trans (KA52 (zc174 hf)) (GK.up (N := rF s52 (rR σ 7) 7) (N' := rF s174 (rR σ 7) 7) (c := 0) (by first | assumption | omega | (simp only [rF_sT, rF_sA]; omega))) (Or.inr (Or.inl rfl))
    have Gu10 : Im (fz s174 = 0) (GS s174 (rR σ 7) g52) := fun hf => GS.mv hp_2 (G52 (zc174 hf)) R174 (by first | assumption | omega | (simp only [rF_sT, rF_sA]; omega)) (by first | (exact Int.le_of_eq (Eq.symm (by assumption))) | omega | (simp only [rF_sT, rF_sA]; omega))
    have rNMp_174 := e174_0 I52_2; clear e174_0
    have TPRp_174 := e174_1 TPRp_52; clear e174_1
    have WNp_174 := e174_2 I52_3; clear e174_2
    have PNp_174 := e174_3 I52_4; clear e174_3
    have CCp_174 := e174_4 CCp_52; clear e174_4
    obtain ⟨gu11, Xu12⟩ := EC_34 (P := fz s174 = 0) (rF s174 0 29) Gu10 Ou7 (fun hf => by omega)
    have Ou13 : Im (fz s174 = 0) _ := fun hf => (Xu12 hf).2.1
    have Ku14 : Im (fz s174 = 0) (GK g gu11 (rF σ (rR σ 7) 7) (rF s174 (rR σ 7) 7) 0) := fun hf => GK.kc (Ku9 hf) (Xu12 hf).2.2 (by omega)
    have Gu15 : Im (fz s174 = 0) _ := fun hf => (Xu12 hf).1
    exact (by (try simp only [post_X14_readRow, Ks174]); (all_goals (repeat' (first | with_reducible intro _ | with_reducible apply And.intro | with_reducible refine Exists.intro gu11 ?_ | with_reducible refine Im.and ?_ ?_))); all_goals (first | assumption | trivial | ((with_reducible refine Im.i fun hf_ => ?_); first | exact (A174 hf_) | exact (Gu15 hf_) | exact (Ku14 hf_) | exact (Ou13 hf_).cst | exact ok1.i | (exact LI.z (fun h => absurd h (by decide))) | (exact absurd hf_ (by omega)) | omega) | (unfold NBP; (try simp only [Ks174]); omega) | (unfold NBQ; (try simp only [Ks174]); omega) | omega | (have zz_ := fz_z (by assumption); omega) | (split <;> omega) | done))
  · intro hr_; unfold rng at hr_
    refine ⟨fun c60 => ?_, fun c60 => ?_⟩
    · have z60 := fz_n c60
      refine ⟨(by (try simp only [pre_X14_need, Ks52]); (all_goals (repeat' (first | with_reducible intro _ | with_reducible apply And.intro | with_reducible refine Exists.intro g52 ?_ | with_reducible refine Im.and ?_ ?_))); all_goals (first | assumption | trivial | ((with_reducible refine Im.i fun hf_ => ?_); first | exact (I52_13 hf_) | exact (G52 hf_) | exact (KA52 hf_) | exact (O52 hf_).cst | exact (L52 hf_) | exact ok1.i | (exact LI.z (fun h => absurd h (by decide))) | (exact absurd hf_ (by omega)) | omega) | (unfold NBP; (try simp only [Ks52]); omega) | (unfold NBQ; (try simp only [Ks52]); omega) | omega | (have zz_ := fz_z (by assumption); omega) | (split <;> omega) | done)), ?_⟩
      intro s174 Ws174 e174_0 e174_1 e174_2 e174_3 e174_4 e174_5 e174_6 e174_7 e174_8 e174_9 e174_10 e174_11 e174_12 e174_13 e174_14 e174_15 e174_16 e174_17 e174_18 e174_19 e174_20 R174 q174
      have q174 := dig_need q174 (by (try simp only [Ks52]); omega)
      obtain ⟨q174_1, q174_2, q174_3, q174_4⟩ := q174
      (try simp only [Ks52, NBP, NBQ] at q174_1 q174_2 q174_3 q174_4 e174_0 e174_1 e174_2 e174_3 e174_4 e174_5 e174_6 e174_7 e174_8 e174_9 e174_10 e174_11 e174_12 e174_13 e174_14 e174_15 e174_16 e174_17 e174_18 e174_19 e174_20 R174)
      have Ks174 : rR s174 7 = rR σ 7 := by first | assumption | ((try simp only [rR_sF, rR_sA, rR_sT, rR_sL] at e174_0 e174_1 e174_2 e174_3 e174_4 e174_5 e174_6 e174_7 e174_8 e174_9 e174_10 e174_11 e174_12 e174_13 e174_14 e174_15 e174_16 e174_17 e174_18 e174_19 e174_20 R174); omega)
      have zr174 := fz_rng s174
      have zc174 : fz s174 = 0 → fz s52 = 0 := fun hf => by omega
      have A174 : Im (fz s174 = 0) (RG σ s174 (rR σ 7) 0) := fun hf => RG.trk hp_2 (I52_13 (zc174 hf)) R174 (Or.inr (Or.inl rfl))
      have Ou16 : Im (fz s174 = 0) _ := fun hf => OP.gk0 (O52 (zc174 hf)) (GK.up (g := g52) (N := rF s52 (rR σ 7) 7) (N' := rF s174 (rR σ 7) 7) (c := 0) (by first | assumption | omega | (simp only [rF_sT, rF_sA]; omega)))
      have Lu17 : Im (fz s174 = 0) _ := fun hf => LI.gk0 hp_2 (L52 (zc174 hf)) (O52 (zc174 hf)) R174 (GK.up (g := g52) (N := rF s52 (rR σ 7) 7) (N' := rF s174 (rR σ 7) 7) (c := 0) (by first | assumption | omega | (simp only [rF_sT, rF_sA]; omega)))
      have Ku18 : Im (fz s174 = 0) (GK g g52 (rF σ (rR σ 7) 7) (rF s174 (rR σ 7) 7) 0) := fun hf => GK.trans (KA52 (zc174 hf)) (GK.up (N := rF s52 (rR σ 7) 7) (N' := rF s174 (rR σ 7) 7) (c := 0) (by first | assumption | omega | (simp only [rF_sT, rF_sA]; omega))) (Or.inr (Or.inl rfl))
      have Gu19 : Im (fz s174 = 0) (GS s174 (rR σ 7) g52) := fun hf => GS.mv hp_2 (G52 (zc174 hf)) R174 (by first | assumption | omega | (simp only [rF_sT, rF_sA]; omega)) (by first | (exact Int.le_of_eq (Eq.symm (by assumption))) | omega | (simp only [rF_sT, rF_sA]; omega))
      have rNMp_174 := e174_0 I52_2; clear e174_0
      have TPRp_174 := e174_1 TPRp_52; clear e174_1
      have WNp_174 := e174_2 I52_3; clear e174_2
      have PNp_174 := e174_3 I52_4; clear e174_3
      have CCp_174 := e174_4 CCp_52; clear e174_4
      obtain ⟨gu20, Xu21⟩ := EC_34 (P := fz s174 = 0) (rF s174 0 29) Gu19 Ou16 (fun hf => by omega)
      have Ou22 : Im (fz s174 = 0) _ := fun hf => (Xu21 hf).2.1
      have Ku23 : Im (fz s174 = 0) (GK g gu20 (rF σ (rR σ 7) 7) (rF s174 (rR σ 7) 7) 0) := fun hf => GK.kc (Ku18 hf) (Xu21 hf).2.2 (by omega)
      have Gu24 : Im (fz s174 = 0) _ := fun hf => (Xu21 hf).1
      exact (by (try simp only [post_X14_readRow, Ks174]); (all_goals (repeat' (first | with_reducible intro _ | with_reducible apply And.intro | with_reducible refine Exists.intro gu20 ?_ | with_reducible refine Im.and ?_ ?_))); all_goals (first | assumption | trivial | ((with_reducible refine Im.i fun hf_ => ?_); first | exact (A174 hf_) | exact (Gu24 hf_) | exact (Ku23 hf_) | exact (Ou22 hf_).cst | exact ok1.i | (exact LI.z (fun h => absurd h (by decide))) | (exact absurd hf_ (by omega)) | omega) | (unfold NBP; (try simp only [Ks174]); omega) | (unfold NBQ; (try simp only [Ks174]); omega) | omega | (have zz_ := fz_z (by assumption); omega) | (split <;> omega) | done))
    · have z60 := fz_z c60
      refine ⟨(by (try simp only [pre_X14_blanks, Ks52]); (all_goals (repeat' (first | with_reducible intro _ | with_reducible apply And.intro | with_reducible refine Exists.intro g52 ?_ | with_reducible refine Im.and ?_ ?_))); all_goals (first | assumption | trivial | ((with_reducible refine Im.i fun hf_ => ?_); first | exact (I52_13 hf_) | exact (G52 hf_) | exact (KA52 hf_) | exact (O52 hf_).cst | exact (L52 hf_) | exact ok1.i | (exact LI.z (fun h => absurd h (by decide))) | (exact absurd hf_ (by omega)) | omega) | (unfold NBP; (try simp only [Ks52]); omega) | (unfold NBQ; (try simp only [Ks52]); omega) | omega | (have zz_ := fz_z (by assumption); omega) | (split <;> omega) | done)), ?_⟩
      intro s64 Ws64 e64_0 e64_1 e64_2 e64_3 e64_4 e64_5 e64_6 e64_7 e64_8 e64_9 e64_10 e64_11 e64_12 e64_13 e64_14 e64_15 e64_16 e64_17 e64_18 e64_19 e64_20 e64_21 e64_22 R64 q64
      have q64 := dig_blanks q64 (by (try simp only [Ks52]); omega)
      obtain ⟨q64_1, q64_2⟩ := q64
      (try simp only [Ks52, NBP, NBQ] at q64_1 q64_2 e64_0 e64_1 e64_2 e64_3 e64_4 e64_5 e64_6 e64_7 e64_8 e64_9 e64_10 e64_11 e64_12 e64_13 e64_14 e64_15 e64_16 e64_17 e64_18 e64_19 e64_20 e64_21 e64_22 R64)
      have Ks64 : rR s64 7 = rR σ 7 := by first | assumption | ((try simp only [rR_sF, rR_sA, rR_sT, rR_sL] at e64_0 e64_1 e64_2 e64_3 e64_4 e64_5 e64_6 e64_7 e64_8 e64_9 e64_10 e64_11 e64_12 e64_13 e64_14 e64_15 e64_16 e64_17 e64_18 e64_19 e64_20 e64_21 e64_22 R64); omega)
      have zr64 := fz_rng s64
      have zc64 : fz s64 = 0 → fz s52 = 0 := fun hf => by omega
      have A64 : Im (fz s64 = 0) (RG σ s64 (rR σ 7) 0) := fun hf => RG.trk hp_2 (I52_13 (zc64 hf)) R64 (Or.inr (Or.inl rfl))
      have Ou25 : Im (fz s64 = 0) _ := fun hf => OP.gk0 (O52 (zc64 hf)) (GK.up (g := g52) (N := rF s52 (rR σ 7) 7) (N' := rF s64 (rR σ 7) 7) (c := 0) (by first | assumption | omega | (simp only [rF_sT, rF_sA]; omega)))
      have Lu26 : Im (fz s64 = 0) _ := fun hf => LI.gk0 hp_2 (L52 (zc64 hf)) (O52 (zc64 hf)) R64 (GK.up (g := g52) (N := rF s52 (rR σ 7) 7) (N' := rF s64 (rR σ 7) 7) (c := 0) (by first | assumption | omega | (simp only [rF_sT, rF_sA]; omega)))
      have Ku27 : Im (fz s64 = 0) (GK g g52 (rF σ (rR σ 7) 7) (rF s64 (rR σ 7) 7) 0) := fun hf => GK.trans (KA52 (zc64 hf)) (GK.up (N := rF s52 (rR σ 7) 7) (N' := rF s64 (rR σ 7) 7) (c := 0) (by first | assumption | omega | (simp only [rF_sT, rF_sA]; omega))) (Or.inr (Or.inl rfl))
      have Gu28 : Im (fz s64 = 0) (GS s64 (rR σ 7) g52) := fun hf => GS.mv hp_2 (G52 (zc64 hf)) R64 (by first | assumption | omega | (simp only [rF_sT, rF_sA]; omega)) (by first | (exact Int.le_of_eq (Eq.symm (by assumption))) | omega | (simp only [rF_sT, rF_sA]; omega))
      have rNMp_64 := e64_0 I52_2; clear e64_0
      have TPRp_64 := e64_1 TPRp_52; clear e64_1
      have WNp_64 := e64_2 I52_3; clear e64_2
      have PNp_64 := e64_3 I52_4; clear e64_3
      have CCp_64 := e64_4 CCp_52; clear e64_4
      refine ⟨(by (try simp only [pre_X14_here, Ks64]); (all_goals (repeat' (first | with_reducible intro _ | with_reducible apply And.intro | with_reducible refine Exists.intro g52 ?_ | with_reducible refine Im.and ?_ ?_))); all_goals (first | assumption | trivial | ((with_reducible refine Im.i fun hf_ => ?_); first | exact (A64 hf_) | exact (Gu28 hf_) | exact (Ku27 hf_) | exact (Ou25 hf_).cst | exact (Lu26 hf_) | exact ok1.i | (exact LI.z (fun h => absurd h (by decide))) | (exact absurd hf_ (by omega)) | omega) | (unfold NBP; (try simp only [Ks64]); omega) | (unfold NBQ; (try simp only [Ks64]); omega) | omega | (have zz_ := fz_z (by assumption); omega) | (split <;> omega) | done)), ?_⟩
      intro v71 hv71 q71
      unfold rng at hv71
      unfold post_X14_here at q71
      obtain ⟨q71_1, q71_2⟩ := q71
      (try simp only [Ks64, NBP, NBQ] at q71_1 q71_2)
      refine ⟨fun c76 => ?_, fun c76 => ?_⟩
      · refine ⟨(by (try simp only [pre_X14_node_t, Ks64]); (all_goals (repeat' (first | with_reducible intro _ | with_reducible apply And.intro | with_reducible refine Exists.intro g52 ?_ | with_reducible refine Im.and ?_ ?_))); all_goals (first | assumption | trivial | ((with_reducible refine Im.i fun hf_ => ?_); first | exact (A64 hf_) | exact (Gu28 hf_) | exact (Ku27 hf_) | exact (Ou25 hf_).cst | exact (Lu26 hf_) | exact ok1.i | (exact LI.z (fun h => absurd h (by decide))) | (exact absurd hf_ (by omega)) | omega) | (unfold NBP; (try simp only [Ks64]); omega) | (unfold NBQ; (try simp only [Ks64]); omega) | omega | (have zz_ := fz_z (by assumption); omega) | (split <;> omega) | done)), ?_⟩
        intro v98 s98 hv98 Ws98 e98_0 e98_1 e98_2 e98_3 e98_4 e98_5 e98_6 e98_7 e98_8 e98_9 e98_10 e98_11 e98_12 e98_13 e98_14 e98_15 e98_16 e98_17 e98_18 e98_19 e98_20 e98_21 q98
        unfold rng at hv98
        unfold post_X14_node_t at q98
        obtain ⟨q98_1, q98_2, q98_3, q98_4, q98_5, q98_6, q98_7, q98_8, q98_9, q98_10⟩ := q98
        (try simp only [Ks64, NBP, NBQ] at q98_1 q98_2 q98_3 q98_4 q98_5 q98_6 q98_7 q98_8 q98_9 q98_10 e98_0 e98_1 e98_2 e98_3 e98_4 e98_5 e98_6 e98_7 e98_8 e98_9 e98_10 e98_11 e98_12 e98_13 e98_14 e98_15 e98_16 e98_17 e98_18 e98_19 e98_20 e98_21)
        have Ks98 : rR s98 7 = rR σ 7 := by first | assumption | ((try simp only [rR_sF, rR_sA, rR_sT, rR_sL] at e98_0 e98_1 e98_2 e98_3 e98_4 e98_5 e98_6 e98_7 e98_8 e98_9 e98_10 e98_11 e98_12 e98_13 e98_14 e98_15 e98_16 e98_17 e98_18 e98_19 e98_20 e98_21); omega)
        have zr98 := fz_rng s98
        have zc98 : fz s98 = 0 → fz s64 = 0 := fun hf => by omega
        have A98 : Im (fz s98 = 0) (RG σ s98 (rR σ 7) 0) := fun hf => RG.trk hp_2 (A64 (zc98 hf)) q98_3 (Or.inr (Or.inl rfl))
        obtain ⟨g98, X98⟩ := EN_60 (P := fz s98 = 0) (rF s64 0 29) (rF s52 0 31) hp_2 (fun hf => Gu28 (zc98 hf)) (fun hf => q98_3) q98_1 q98_2 q98_4 q98_5 q98_6 q98_9 (fun hf => by (try simp only [rF_sT, rF_sA]); (repeat' (with_reducible apply And.intro)) <;> first | trivial | omega)
        have Ou29 : Im (fz s98 = 0) _ := fun hf => OP.gk0 (Ou25 (zc98 hf)) (X98 hf).2.1
        have Lu30 : Im (fz s98 = 0) _ := fun hf => LI.gk0 hp_2 (Lu26 (zc98 hf)) (Ou25 (zc98 hf)) q98_3 (X98 hf).2.1
        have Ku31 : Im (fz s98 = 0) (GK g g98 (rF σ (rR σ 7) 7) (rF s98 (rR σ 7) 7) 0) := fun hf => GK.gs (Ku27 (zc98 hf)) (X98 hf).2.1
        have Gu32 : Im (fz s98 = 0) _ := fun hf => (X98 hf).1
        have O98 : Im (fz s98 = 0) _ := fun hf => (X98 hf).2.2.1
        have rNMp_98 := e98_0 rNMp_64; clear e98_0
        have TPRp_98 := e98_1 TPRp_64; clear e98_1
        have WNp_98 := e98_2 WNp_64; clear e98_2
        have CCp_98 := e98_3 CCp_64; clear e98_3
        refine ⟨fun c104 => ?_, fun c104 => ?_⟩
        · refine ⟨(by (try simp only [Ks98]); (all_goals (repeat' (first | with_reducible intro _ | with_reducible apply And.intro | with_reducible refine Exists.intro g98 ?_ | with_reducible refine Im.and ?_ ?_))); all_goals (first | assumption | trivial | ((with_reducible refine Im.i fun hf_ => ?_); first | exact (A98 hf_) | exact (Gu32 hf_) | exact (Ku31 hf_) | exact (Ou29 hf_).cst | exact (Lu30 hf_) | exact (O98 hf_).cst | exact ok1.i | (exact LI.z (fun h => absurd h (by decide))) | (exact absurd hf_ (by omega)) | omega) | (unfold NBP; (try simp only [Ks98]); omega) | (unfold NBQ; (try simp only [Ks98]); omega) | omega | (have zz_ := fz_z (by assumption); omega) | (split <;> omega) | done)), ?_⟩
          obtain ⟨gu37, Xu38⟩ := EC_60 (P := fz s98 = 0) (rF s64 0 29) Gu32 O98 (fun hf => by omega)
          have Ou39 : Im (fz s98 = 0) _ := fun hf => OP.kc (Ou29 hf) (Xu38 hf).2.2 (by omega)
          have Lu40 : Im (fz s98 = 0) _ := fun hf => LI.kc (Lu30 hf) (Xu38 hf).2.2
          have O98u41 : Im (fz s98 = 0) _ := fun hf => (Xu38 hf).2.1
          have Ku42 : Im (fz s98 = 0) (GK g gu37 (rF σ (rR σ 7) 7) (rF s98 (rR σ 7) 7) 0) := fun hf => GK.kc (Ku31 hf) (Xu38 hf).2.2 (by omega)
          have Gu43 : Im (fz s98 = 0) _ := fun hf => (Xu38 hf).1
          have A131 : Im (fz s98 = 0) (RG σ (sT s98 (rR σ 7) 5 y52_2 v98) (rR σ 7) 0) := fun hf => RG.tst (f := 5) (i := y52_2) (x := v98) hp_2 (A98 hf) (by decide) (by omega)
          obtain ⟨gs131, Xs131⟩ := EA_1_34 (P := fz s98 = 0) hp_2 Gu43 Ou39 Lu40 O98u41 (fun _ h => h) (fun hf => by omega)
          have Ku44 : Im (fz s98 = 0) (GK g gs131 (rF σ (rR σ 7) 7) (rF s98 (rR σ 7) 7) 0) := fun hf => GK.ks (Ku42 hf) (Xs131 hf).2.2.2.1 (by omega) (by omega)
          have Gu45 : Im (fz s98 = 0) _ := fun hf => (Xs131 hf).1
          have Ou46 : Im (fz s98 = 0) _ := fun hf => (Xs131 hf).2.1
          have Lu47 : Im (fz s98 = 0) _ := fun hf => (Xs131 hf).2.2.1
          exact (by (try simp only [inv_X14_readRow_132, mu_X14_readRow_52, reduceIte, and_true, true_and, and_false, false_and, and_self, Nat.reduceEqDiff, fz_sA, rF_sA, rA_sA, rR_sA, rF_sT, rR_sT, sT_sF, fz_sT, rA_sT26 hp_2, rA_sT27 hp_2, rA_sT34 hp_2, rA_sT35 hp_2, rA_sT36 hp_2, rA_sT37 hp_2, rA_sT40 hp_2, TPRp_sT hp_2, WNp_sT hp_2, VMp_sT hp_2, KYp_sT hp_2, PPp_sT hp_2, WFp_sT hp_2, CCp_sT hp_2, rNMp_sT5, PNp_sT5, rk_n0 hp_2, Ks98]); (all_goals (repeat' (first | with_reducible intro _ | with_reducible apply And.intro | with_reducible refine Exists.intro gs131 ?_ | with_reducible refine Im.and ?_ ?_))); all_goals (first | assumption | trivial | ((with_reducible refine Im.i fun hf_ => ?_); first | exact (A131 hf_) | exact (Gu45 hf_) | exact (Ku44 hf_) | exact (Ou46 hf_).cst | exact (Lu47 hf_) | exact ok1.i | (exact LI.z (fun h => absurd h (by decide))) | (exact absurd hf_ (by omega)) | omega) | (unfold NBP; (try simp only [reduceIte, and_true, true_and, and_false, false_and, and_self, Nat.reduceEqDiff, fz_sA, rF_sA, rA_sA, rR_sA, rF_sT, rR_sT, sT_sF, fz_sT, rA_sT26 hp_2, rA_sT27 hp_2, rA_sT34 hp_2, rA_sT35 hp_2, rA_sT36 hp_2, rA_sT37 hp_2, rA_sT40 hp_2, TPRp_sT hp_2, WNp_sT hp_2, VMp_sT hp_2, KYp_sT hp_2, PPp_sT hp_2, WFp_sT hp_2, CCp_sT hp_2, rNMp_sT5, PNp_sT5, rk_n0 hp_2, Ks98]); omega) | (unfold NBQ; (try simp only [reduceIte, and_true, true_and, and_false, false_and, and_self, Nat.reduceEqDiff, fz_sA, rF_sA, rA_sA, rR_sA, rF_sT, rR_sT, sT_sF, fz_sT, rA_sT26 hp_2, rA_sT27 hp_2, rA_sT34 hp_2, rA_sT35 hp_2, rA_sT36 hp_2, rA_sT37 hp_2, rA_sT40 hp_2, TPRp_sT hp_2, WNp_sT hp_2, VMp_sT hp_2, KYp_sT hp_2, PPp_sT hp_2, WFp_sT hp_2, CCp_sT hp_2, rNMp_sT5, PNp_sT5, rk_n0 hp_2, Ks98]); omega) | omega | (have zz_ := fz_z (by assumption); omega) | (split <;> omega) | done))
        · refine ⟨(by (try simp only [Ks98]); (all_goals (repeat' (first | with_reducible intro _ | with_reducible apply And.intro | with_reducible refine Exists.intro g98 ?_ | with_reducible refine Im.and ?_ ?_))); all_goals (first | assumption | trivial | ((with_reducible refine Im.i fun hf_ => ?_); first | exact (A98 hf_) | exact (Gu32 hf_) | exact (Ku31 hf_) | exact (Ou29 hf_).cst | exact (Lu30 hf_) | exact (O98 hf_).cst | exact ok1.i | (exact LI.z (fun h => absurd h (by decide))) | (exact absurd hf_ (by omega)) | omega) | (unfold NBP; (try simp only [Ks98]); omega) | (unfold NBQ; (try simp only [Ks98]); omega) | omega | (have zz_ := fz_z (by assumption); omega) | (split <;> omega) | done)), ?_⟩
          obtain ⟨gu48, Xu49⟩ := EC_60 (P := fz s98 = 0) (rF s64 0 29) Gu32 O98 (fun hf => by omega)
          have Ou50 : Im (fz s98 = 0) _ := fun hf => OP.kc (Ou29 hf) (Xu49 hf).2.2 (by omega)
          have Lu51 : Im (fz s98 = 0) _ := fun hf => LI.kc (Lu30 hf) (Xu49 hf).2.2
          have O98u52 : Im (fz s98 = 0) _ := fun hf => (Xu49 hf).2.1
          have Ku53 : Im (fz s98 = 0) (GK g gu48 (rF σ (rR σ 7) 7) (rF s98 (rR σ 7) 7) 0) := fun hf => GK.kc (Ku31 hf) (Xu49 hf).2.2 (by omega)
          have Gu54 : Im (fz s98 = 0) _ := fun hf => (Xu49 hf).1
          have A117 : Im (fz s98 = 0) (RG σ (sT s98 (rR σ 7) 1 y52_1 v98) (rR σ 7) 0) := fun hf => RG.tst (f := 1) (i := y52_1) (x := v98) hp_2 (A98 hf) (by decide) (by omega)
          obtain ⟨gs117, Xs117⟩ := EH_1_34 (P := fz s98 = 0) hp_2 Gu54 Ou50 Lu51 O98u52 (fun _ h => h) (fun hf => by omega)
          have Ku55 : Im (fz s98 = 0) (GK g gs117 (rF σ (rR σ 7) 7) (rF s98 (rR σ 7) 7) 0) := fun hf => GK.ks (Ku53 hf) (Xs117 hf).2.2.2.1 (by omega) (by omega)
          have Gu56 : Im (fz s98 = 0) _ := fun hf => (Xs117 hf).1
          have Ou57 : Im (fz s98 = 0) _ := fun hf => (Xs117 hf).2.1
          have Lu58 : Im (fz s98 = 0) _ := fun hf => (Xs117 hf).2.2.1
          exact (by (try simp only [inv_X14_readRow_132, mu_X14_readRow_52, reduceIte, and_true, true_and, and_false, false_and, and_self, Nat.reduceEqDiff, fz_sA, rF_sA, rA_sA, rR_sA, rF_sT, rR_sT, sT_sF, fz_sT, rA_sT26 hp_2, rA_sT27 hp_2, rA_sT34 hp_2, rA_sT35 hp_2, rA_sT36 hp_2, rA_sT37 hp_2, rA_sT40 hp_2, TPRp_sT hp_2, WNp_sT hp_2, VMp_sT hp_2, KYp_sT hp_2, PPp_sT hp_2, WFp_sT hp_2, CCp_sT hp_2, rNMp_sT1, PNp_sT1, rk_n0 hp_2, Ks98]); (all_goals (repeat' (first | with_reducible intro _ | with_reducible apply And.intro | with_reducible refine Exists.intro gs117 ?_ | with_reducible refine Im.and ?_ ?_))); all_goals (first | assumption | trivial | ((with_reducible refine Im.i fun hf_ => ?_); first | exact (A117 hf_) | exact (Gu56 hf_) | exact (Ku55 hf_) | exact (Ou57 hf_).cst | exact (Lu58 hf_) | exact ok1.i | (exact LI.z (fun h => absurd h (by decide))) | (exact absurd hf_ (by omega)) | omega) | (unfold NBP; (try simp only [reduceIte, and_true, true_and, and_false, false_and, and_self, Nat.reduceEqDiff, fz_sA, rF_sA, rA_sA, rR_sA, rF_sT, rR_sT, sT_sF, fz_sT, rA_sT26 hp_2, rA_sT27 hp_2, rA_sT34 hp_2, rA_sT35 hp_2, rA_sT36 hp_2, rA_sT37 hp_2, rA_sT40 hp_2, TPRp_sT hp_2, WNp_sT hp_2, VMp_sT hp_2, KYp_sT hp_2, PPp_sT hp_2, WFp_sT hp_2, CCp_sT hp_2, rNMp_sT1, PNp_sT1, rk_n0 hp_2, Ks98]); omega) | (unfold NBQ; (try simp only [reduceIte, and_true, true_and, and_false, false_and, and_self, Nat.reduceEqDiff, fz_sA, rF_sA, rA_sA, rR_sA, rF_sT, rR_sT, sT_sF, fz_sT, rA_sT26 hp_2, rA_sT27 hp_2, rA_sT34 hp_2, rA_sT35 hp_2, rA_sT36 hp_2, rA_sT37 hp_2, rA_sT40 hp_2, TPRp_sT hp_2, WNp_sT hp_2, VMp_sT hp_2, KYp_sT hp_2, PPp_sT hp_2, WFp_sT hp_2, CCp_sT hp_2, rNMp_sT1, PNp_sT1, rk_n0 hp_2, Ks98]); omega) | omega | (have zz_ := fz_z (by assumption); omega) | (split <;> omega) | done))
      · refine ⟨(by (try simp only [pre_X14_here, Ks64]); (all_goals (repeat' (first | with_reducible intro _ | with_reducible apply And.intro | with_reducible refine Exists.intro g52 ?_ | with_reducible refine Im.and ?_ ?_))); all_goals (first | assumption | trivial | ((with_reducible refine Im.i fun hf_ => ?_); first | exact (A64 hf_) | exact (Gu28 hf_) | exact (Ku27 hf_) | exact (Ou25 hf_).cst | exact (Lu26 hf_) | exact ok1.i | (exact LI.z (fun h => absurd h (by decide))) | (exact absurd hf_ (by omega)) | omega) | (unfold NBP; (try simp only [Ks64]); omega) | (unfold NBQ; (try simp only [Ks64]); omega) | omega | (have zz_ := fz_z (by assumption); omega) | (split <;> omega) | done)), ?_⟩
        intro v80 hv80 q80
        unfold rng at hv80
        unfold post_X14_here at q80
        obtain ⟨q80_1, q80_2⟩ := q80
        (try simp only [Ks64, NBP, NBQ] at q80_1 q80_2)
        refine ⟨fun c85 => ?_, fun c85 => ?_⟩
        · refine ⟨g52, ?_⟩
          refine ⟨(by (try simp only [pre_X14_readArg, Ks64]); (all_goals (repeat' (first | with_reducible intro _ | with_reducible apply And.intro | with_reducible refine Exists.intro g52 ?_ | with_reducible refine Im.and ?_ ?_))); all_goals (first | assumption | trivial | ((with_reducible refine Im.i fun hf_ => ?_); first | exact (A64 hf_) | exact (Gu28 hf_) | exact (Ku27 hf_) | exact (Ou25 hf_).cst | exact (Lu26 hf_) | exact ok1.i | (exact LI.z (fun h => absurd h (by decide))) | (exact absurd hf_ (by omega)) | omega) | (unfold NBP; (try simp only [Ks64]); omega) | (unfold NBQ; (try simp only [Ks64]); omega) | omega | (have zz_ := fz_z (by assumption); omega) | (split <;> omega) | done)), ?_⟩
          refine ⟨(by (try simp only [rk_X14_readArg, Ks64]); (all_goals (repeat' (first | with_reducible intro _ | with_reducible apply And.intro | with_reducible refine Exists.intro g52 ?_ | with_reducible refine Im.and ?_ ?_))); all_goals (first | assumption | trivial | ((with_reducible refine Im.i fun hf_ => ?_); first | exact (A64 hf_) | exact (Gu28 hf_) | exact (Ku27 hf_) | exact (Ou25 hf_).cst | exact (Lu26 hf_) | exact ok1.i | (exact LI.z (fun h => absurd h (by decide))) | (exact absurd hf_ (by omega)) | omega) | (unfold NBP; (try simp only [Ks64]); omega) | (unfold NBQ; (try simp only [Ks64]); omega) | omega | (have zz_ := fz_z (by assumption); omega) | (split <;> omega) | done)), ?_⟩
          intro v93 s93 hv93 Ws93 e93_0 e93_1 e93_2 e93_3 e93_4 e93_5 e93_6 e93_7 e93_8 e93_9 q93
          unfold rng at hv93
          unfold post_X14_readArg at q93
          obtain ⟨q93_1, q93_2, q93_3, q93_4, q93_5, q93_6, q93_7, q93_8, q93_9⟩ := q93
          (try simp only [Ks64, NBP, NBQ] at q93_1 q93_2 q93_3 q93_4 q93_5 q93_6 q93_7 q93_8 q93_9 e93_0 e93_1 e93_2 e93_3 e93_4 e93_5 e93_6 e93_7 e93_8 e93_9)
          have Ks93 : rR s93 7 = rR σ 7 := by first | assumption | ((try simp only [rR_sF, rR_sA, rR_sT, rR_sL] at e93_0 e93_1 e93_2 e93_3 e93_4 e93_5 e93_6 e93_7 e93_8 e93_9); omega)
          have zr93 := fz_rng s93
          have zc93 : fz s93 = 0 → fz s64 = 0 := fun hf => by omega
          have A93 : Im (fz s93 = 0) (RG σ s93 (rR σ 7) 0) := fun hf => RG.trk hp_2 (A64 (zc93 hf)) (q93_8 (by omega)) (Or.inr (Or.inl rfl))
          obtain ⟨g93, X93⟩ := q93_9
          have Ou59 : Im (fz s93 = 0) _ := fun hf => OP.gk0 (Ou25 (zc93 hf)) ((X93 hf).2.1)
          have Lu60 : Im (fz s93 = 0) _ := fun hf => LI.gk0 hp_2 (Lu26 (zc93 hf)) (Ou25 (zc93 hf)) (q93_8 (by omega)) ((X93 hf).2.1)
          have Ku61 : Im (fz s93 = 0) (GK g g93 (rF σ (rR σ 7) 7) (rF s93 (rR σ 7) 7) 0) := fun hf => GK.trans (Ku27 (zc93 hf)) ((X93 hf).2.1) (Or.inr (Or.inl rfl))
          have Gu62 : Im (fz s93 = 0) (GS s93 (rR σ 7) g93) := fun hf => (X93 hf).1
          have r93 : Im (fz s93 = 0) _ := fun hf => (X93 hf).2.2.1
          have TPRp_93 := e93_0 TPRp_64; clear e93_0
          have CCp_93 := e93_1 CCp_64; clear e93_1
          refine ⟨(by (try simp only [pre_X14_node_t, Ks93]); (all_goals (repeat' (first | with_reducible intro _ | with_reducible apply And.intro | with_reducible refine Exists.intro g93 ?_ | with_reducible refine Im.and ?_ ?_))); all_goals (first | assumption | trivial | ((with_reducible refine Im.i fun hf_ => ?_); first | exact (A93 hf_) | exact (Gu62 hf_) | exact (Ku61 hf_) | exact (Ou59 hf_).cst | exact (Lu60 hf_) | exact (r93 hf_).cst | exact ok1.i | (exact LI.z (fun h => absurd h (by decide))) | (exact absurd hf_ (by omega)) | omega) | (unfold NBP; (try simp only [Ks93]); omega) | (unfold NBQ; (try simp only [Ks93]); omega) | omega | (have zz_ := fz_z (by assumption); omega) | (split <;> omega) | done)), ?_⟩
          intro v98 s98 hv98 Ws98 e98_0 e98_1 e98_2 e98_3 e98_4 e98_5 e98_6 e98_7 e98_8 e98_9 e98_10 e98_11 e98_12 e98_13 e98_14 e98_15 e98_16 e98_17 e98_18 e98_19 e98_20 e98_21 q98
          unfold rng at hv98
          unfold post_X14_node_t at q98
          obtain ⟨q98_1, q98_2, q98_3, q98_4, q98_5, q98_6, q98_7, q98_8, q98_9, q98_10⟩ := q98
          (try simp only [Ks93, NBP, NBQ] at q98_1 q98_2 q98_3 q98_4 q98_5 q98_6 q98_7 q98_8 q98_9 q98_10 e98_0 e98_1 e98_2 e98_3 e98_4 e98_5 e98_6 e98_7 e98_8 e98_9 e98_10 e98_11 e98_12 e98_13 e98_14 e98_15 e98_16 e98_17 e98_18 e98_19 e98_20 e98_21)
          have Ks98 : rR s98 7 = rR σ 7 := by first | assumption | ((try simp only [rR_sF, rR_sA, rR_sT, rR_sL] at e98_0 e98_1 e98_2 e98_3 e98_4 e98_5 e98_6 e98_7 e98_8 e98_9 e98_10 e98_11 e98_12 e98_13 e98_14 e98_15 e98_16 e98_17 e98_18 e98_19 e98_20 e98_21); omega)
          have zr98 := fz_rng s98
          have zc98 : fz s98 = 0 → fz s93 = 0 := fun hf => by omega
          have A98 : Im (fz s98 = 0) (RG σ s98 (rR σ 7) 0) := fun hf => RG.trk hp_2 (A93 (zc98 hf)) q98_3 (Or.inr (Or.inl rfl))
          obtain ⟨g98, X98⟩ := EV_60 (P := fz s98 = 0) (rF s64 0 29) (rF s93 0 31) hp_2 (fun hf => Gu62 (zc98 hf)) (fun hf => r93 (zc98 hf)) (fun _ h => h) (fun hf => q98_3) q98_1 q98_2 q98_4 q98_5 q98_6 q98_9 (fun hf => by (try simp only [rF_sT, rF_sA]); (repeat' (with_reducible apply And.intro)) <;> first | trivial | omega)
          have Ou63 : Im (fz s98 = 0) _ := fun hf => OP.kv (Ou59 (zc98 hf)) (X98 hf).2.1 (X98 hf).2.2.2.2.1.1
          have Lu64 : Im (fz s98 = 0) _ := fun hf => LI.kv hp_2 (Lu60 (zc98 hf)) (Ou59 (zc98 hf)) q98_3 (X98 hf).2.1 ⟨(X98 hf).2.2.2.2.1.2, (X98 hf).2.2.2.2.1.1⟩
          have Ku65 : Im (fz s98 = 0) (GK g g98 (rF σ (rR σ 7) 7) (rF s98 (rR σ 7) 7) 0) := fun hf => GK.kv (Ku61 (zc98 hf)) (X98 hf).2.1 (by omega)
          have Gu66 : Im (fz s98 = 0) _ := fun hf => (X98 hf).1
          have O98 : Im (fz s98 = 0) _ := fun hf => (X98 hf).2.2.1
          have L98_1 : Im (fz s98 = 0) _ := fun hf => (X98 hf).2.2.2.1
          have rNMp_98 := e98_0 q93_2; clear e98_0
          have TPRp_98 := e98_1 TPRp_93; clear e98_1
          have WNp_98 := e98_2 q93_3; clear e98_2
          have CCp_98 := e98_3 CCp_93; clear e98_3
          refine ⟨fun c104 => ?_, fun c104 => ?_⟩
          · refine ⟨(by (try simp only [Ks98]); (all_goals (repeat' (first | with_reducible intro _ | with_reducible apply And.intro | with_reducible refine Exists.intro g98 ?_ | with_reducible refine Im.and ?_ ?_))); all_goals (first | assumption | trivial | ((with_reducible refine Im.i fun hf_ => ?_); first | exact (A98 hf_) | exact (Gu66 hf_) | exact (Ku65 hf_) | exact (Ou63 hf_).cst | exact (Lu64 hf_) | exact (O98 hf_).cst | exact (L98_1 hf_) | exact ok1.i | (exact LI.z (fun h => absurd h (by decide))) | (exact absurd hf_ (by omega)) | omega) | (unfold NBP; (try simp only [Ks98]); omega) | (unfold NBQ; (try simp only [Ks98]); omega) | omega | (have zz_ := fz_z (by assumption); omega) | (split <;> omega) | done)), ?_⟩
            obtain ⟨gu71, Xu72⟩ := EC_60 (P := fz s98 = 0) (rF s93 0 29) Gu66 O98 (fun hf => by omega)
            have Ou73 : Im (fz s98 = 0) _ := fun hf => OP.kc (Ou63 hf) (Xu72 hf).2.2 (by omega)
            have Lu74 : Im (fz s98 = 0) _ := fun hf => LI.kc (Lu64 hf) (Xu72 hf).2.2
            have O98u75 : Im (fz s98 = 0) _ := fun hf => (Xu72 hf).2.1
            have Ku76 : Im (fz s98 = 0) (GK g gu71 (rF σ (rR σ 7) 7) (rF s98 (rR σ 7) 7) 0) := fun hf => GK.kc (Ku65 hf) (Xu72 hf).2.2 (by omega)
            have Gu77 : Im (fz s98 = 0) _ := fun hf => (Xu72 hf).1
            have A131 : Im (fz s98 = 0) (RG σ (sT s98 (rR σ 7) 5 y52_2 v98) (rR σ 7) 0) := fun hf => RG.tst (f := 5) (i := y52_2) (x := v98) hp_2 (A98 hf) (by decide) (by omega)
            obtain ⟨gs131, Xs131⟩ := EA_1_34 (P := fz s98 = 0) hp_2 Gu77 Ou73 Lu74 O98u75 (fun _ h => h) (fun hf => by omega)
            have Ku78 : Im (fz s98 = 0) (GK g gs131 (rF σ (rR σ 7) 7) (rF s98 (rR σ 7) 7) 0) := fun hf => GK.ks (Ku76 hf) (Xs131 hf).2.2.2.1 (by omega) (by omega)
            have Gu79 : Im (fz s98 = 0) _ := fun hf => (Xs131 hf).1
            have Ou80 : Im (fz s98 = 0) _ := fun hf => (Xs131 hf).2.1
            have Lu81 : Im (fz s98 = 0) _ := fun hf => (Xs131 hf).2.2.1
            exact (by (try simp only [inv_X14_readRow_132, mu_X14_readRow_52, reduceIte, and_true, true_and, and_false, false_and, and_self, Nat.reduceEqDiff, fz_sA, rF_sA, rA_sA, rR_sA, rF_sT, rR_sT, sT_sF, fz_sT, rA_sT26 hp_2, rA_sT27 hp_2, rA_sT34 hp_2, rA_sT35 hp_2, rA_sT36 hp_2, rA_sT37 hp_2, rA_sT40 hp_2, TPRp_sT hp_2, WNp_sT hp_2, VMp_sT hp_2, KYp_sT hp_2, PPp_sT hp_2, WFp_sT hp_2, CCp_sT hp_2, rNMp_sT5, PNp_sT5, rk_n0 hp_2, Ks98]); (all_goals (repeat' (first | with_reducible intro _ | with_reducible apply And.intro | with_reducible refine Exists.intro gs131 ?_ | with_reducible refine Im.and ?_ ?_))); all_goals (first | assumption | trivial | ((with_reducible refine Im.i fun hf_ => ?_); first | exact (A131 hf_) | exact (Gu79 hf_) | exact (Ku78 hf_) | exact (Ou80 hf_).cst | exact (Lu81 hf_) | exact ok1.i | (exact LI.z (fun h => absurd h (by decide))) | (exact absurd hf_ (by omega)) | omega) | (unfold NBP; (try simp only [reduceIte, and_true, true_and, and_false, false_and, and_self, Nat.reduceEqDiff, fz_sA, rF_sA, rA_sA, rR_sA, rF_sT, rR_sT, sT_sF, fz_sT, rA_sT26 hp_2, rA_sT27 hp_2, rA_sT34 hp_2, rA_sT35 hp_2, rA_sT36 hp_2, rA_sT37 hp_2, rA_sT40 hp_2, TPRp_sT hp_2, WNp_sT hp_2, VMp_sT hp_2, KYp_sT hp_2, PPp_sT hp_2, WFp_sT hp_2, CCp_sT hp_2, rNMp_sT5, PNp_sT5, rk_n0 hp_2, Ks98]); omega) | (unfold NBQ; (try simp only [reduceIte, and_true, true_and, and_false, false_and, and_self, Nat.reduceEqDiff, fz_sA, rF_sA, rA_sA, rR_sA, rF_sT, rR_sT, sT_sF, fz_sT, rA_sT26 hp_2, rA_sT27 hp_2, rA_sT34 hp_2, rA_sT35 hp_2, rA_sT36 hp_2, rA_sT37 hp_2, rA_sT40 hp_2, TPRp_sT hp_2, WNp_sT hp_2, VMp_sT hp_2, KYp_sT hp_2, PPp_sT hp_2, WFp_sT hp_2, CCp_sT hp_2, rNMp_sT5, PNp_sT5, rk_n0 hp_2, Ks98]); omega) | omega | (have zz_ := fz_z (by assumption); omega) | (split <;> omega) | done))
          · refine ⟨(by (try simp only [Ks98]); (all_goals (repeat' (first | with_reducible intro _ | with_reducible apply And.intro | with_reducible refine Exists.intro g98 ?_ | with_reducible refine Im.and ?_ ?_))); all_goals (first | assumption | trivial | ((with_reducible refine Im.i fun hf_ => ?_); first | exact (A98 hf_) | exact (Gu66 hf_) | exact (Ku65 hf_) | exact (Ou63 hf_).cst | exact (Lu64 hf_) | exact (O98 hf_).cst | exact (L98_1 hf_) | exact ok1.i | (exact LI.z (fun h => absurd h (by decide))) | (exact absurd hf_ (by omega)) | omega) | (unfold NBP; (try simp only [Ks98]); omega) | (unfold NBQ; (try simp only [Ks98]); omega) | omega | (have zz_ := fz_z (by assumption); omega) | (split <;> omega) | done)), ?_⟩
            obtain ⟨gu82, Xu83⟩ := EC_60 (P := fz s98 = 0) (rF s93 0 29) Gu66 O98 (fun hf => by omega)
            have Ou84 : Im (fz s98 = 0) _ := fun hf => OP.kc (Ou63 hf) (Xu83 hf).2.2 (by omega)
            have Lu85 : Im (fz s98 = 0) _ := fun hf => LI.kc (Lu64 hf) (Xu83 hf).2.2
            have O98u86 : Im (fz s98 = 0) _ := fun hf => (Xu83 hf).2.1
            have Ku87 : Im (fz s98 = 0) (GK g gu82 (rF σ (rR σ 7) 7) (rF s98 (rR σ 7) 7) 0) := fun hf => GK.kc (Ku65 hf) (Xu83 hf).2.2 (by omega)
            have Gu88 : Im (fz s98 = 0) _ := fun hf => (Xu83 hf).1
            have A117 : Im (fz s98 = 0) (RG σ (sT s98 (rR σ 7) 1 y52_1 v98) (rR σ 7) 0) := fun hf => RG.tst (f := 1) (i := y52_1) (x := v98) hp_2 (A98 hf) (by decide) (by omega)
            obtain ⟨gs117, Xs117⟩ := EH_1_34 (P := fz s98 = 0) hp_2 Gu88 Ou84 Lu85 O98u86 (fun _ h => h) (fun hf => by omega)
            have Ku89 : Im (fz s98 = 0) (GK g gs117 (rF σ (rR σ 7) 7) (rF s98 (rR σ 7) 7) 0) := fun hf => GK.ks (Ku87 hf) (Xs117 hf).2.2.2.1 (by omega) (by omega)
            have Gu90 : Im (fz s98 = 0) _ := fun hf => (Xs117 hf).1
            have Ou91 : Im (fz s98 = 0) _ := fun hf => (Xs117 hf).2.1
            have Lu92 : Im (fz s98 = 0) _ := fun hf => (Xs117 hf).2.2.1
            exact (by (try simp only [inv_X14_readRow_132, mu_X14_readRow_52, reduceIte, and_true, true_and, and_false, false_and, and_self, Nat.reduceEqDiff, fz_sA, rF_sA, rA_sA, rR_sA, rF_sT, rR_sT, sT_sF, fz_sT, rA_sT26 hp_2, rA_sT27 hp_2, rA_sT34 hp_2, rA_sT35 hp_2, rA_sT36 hp_2, rA_sT37 hp_2, rA_sT40 hp_2, TPRp_sT hp_2, WNp_sT hp_2, VMp_sT hp_2, KYp_sT hp_2, PPp_sT hp_2, WFp_sT hp_2, CCp_sT hp_2, rNMp_sT1, PNp_sT1, rk_n0 hp_2, Ks98]); (all_goals (repeat' (first | with_reducible intro _ | with_reducible apply And.intro | with_reducible refine Exists.intro gs117 ?_ | with_reducible refine Im.and ?_ ?_))); all_goals (first | assumption | trivial | ((with_reducible refine Im.i fun hf_ => ?_); first | exact (A117 hf_) | exact (Gu90 hf_) | exact (Ku89 hf_) | exact (Ou91 hf_).cst | exact (Lu92 hf_) | exact ok1.i | (exact LI.z (fun h => absurd h (by decide))) | (exact absurd hf_ (by omega)) | omega) | (unfold NBP; (try simp only [reduceIte, and_true, true_and, and_false, false_and, and_self, Nat.reduceEqDiff, fz_sA, rF_sA, rA_sA, rR_sA, rF_sT, rR_sT, sT_sF, fz_sT, rA_sT26 hp_2, rA_sT27 hp_2, rA_sT34 hp_2, rA_sT35 hp_2, rA_sT36 hp_2, rA_sT37 hp_2, rA_sT40 hp_2, TPRp_sT hp_2, WNp_sT hp_2, VMp_sT hp_2, KYp_sT hp_2, PPp_sT hp_2, WFp_sT hp_2, CCp_sT hp_2, rNMp_sT1, PNp_sT1, rk_n0 hp_2, Ks98]); omega) | (unfold NBQ; (try simp only [reduceIte, and_true, true_and, and_false, false_and, and_self, Nat.reduceEqDiff, fz_sA, rF_sA, rA_sA, rR_sA, rF_sT, rR_sT, sT_sF, fz_sT, rA_sT26 hp_2, rA_sT27 hp_2, rA_sT34 hp_2, rA_sT35 hp_2, rA_sT36 hp_2, rA_sT37 hp_2, rA_sT40 hp_2, TPRp_sT hp_2, WNp_sT hp_2, VMp_sT hp_2, KYp_sT hp_2, PPp_sT hp_2, WFp_sT hp_2, CCp_sT hp_2, rNMp_sT1, PNp_sT1, rk_n0 hp_2, Ks98]); omega) | omega | (have zz_ := fz_z (by assumption); omega) | (split <;> omega) | done))
        · refine ⟨(by (try simp only [pre_X14_node_t, Ks64]); (all_goals (repeat' (first | with_reducible intro _ | with_reducible apply And.intro | with_reducible refine Exists.intro g52 ?_ | with_reducible refine Im.and ?_ ?_))); all_goals (first | assumption | trivial | ((with_reducible refine Im.i fun hf_ => ?_); first | exact (A64 hf_) | exact (Gu28 hf_) | exact (Ku27 hf_) | exact (Ou25 hf_).cst | exact (Lu26 hf_) | exact ok1.i | (exact LI.z (fun h => absurd h (by decide))) | (exact absurd hf_ (by omega)) | omega) | (unfold NBP; (try simp only [Ks64]); omega) | (unfold NBQ; (try simp only [Ks64]); omega) | omega | (have zz_ := fz_z (by assumption); omega) | (split <;> omega) | done)), ?_⟩
          intro v98 s98 hv98 Ws98 e98_0 e98_1 e98_2 e98_3 e98_4 e98_5 e98_6 e98_7 e98_8 e98_9 e98_10 e98_11 e98_12 e98_13 e98_14 e98_15 e98_16 e98_17 e98_18 e98_19 e98_20 e98_21 q98
          unfold rng at hv98
          unfold post_X14_node_t at q98
          obtain ⟨q98_1, q98_2, q98_3, q98_4, q98_5, q98_6, q98_7, q98_8, q98_9, q98_10⟩ := q98
          (try simp only [Ks64, NBP, NBQ] at q98_1 q98_2 q98_3 q98_4 q98_5 q98_6 q98_7 q98_8 q98_9 q98_10 e98_0 e98_1 e98_2 e98_3 e98_4 e98_5 e98_6 e98_7 e98_8 e98_9 e98_10 e98_11 e98_12 e98_13 e98_14 e98_15 e98_16 e98_17 e98_18 e98_19 e98_20 e98_21)
          have Ks98 : rR s98 7 = rR σ 7 := by first | assumption | ((try simp only [rR_sF, rR_sA, rR_sT, rR_sL] at e98_0 e98_1 e98_2 e98_3 e98_4 e98_5 e98_6 e98_7 e98_8 e98_9 e98_10 e98_11 e98_12 e98_13 e98_14 e98_15 e98_16 e98_17 e98_18 e98_19 e98_20 e98_21); omega)
          have zr98 := fz_rng s98
          have zc98 : fz s98 = 0 → fz s64 = 0 := fun hf => by omega
          have A98 : Im (fz s98 = 0) (RG σ s98 (rR σ 7) 0) := fun hf => RG.trk hp_2 (A64 (zc98 hf)) q98_3 (Or.inr (Or.inl rfl))
          obtain ⟨g98, X98⟩ := EN_60 (P := fz s98 = 0) (rF s64 0 29) (rF s52 0 31) hp_2 (fun hf => Gu28 (zc98 hf)) (fun hf => q98_3) q98_1 q98_2 q98_4 q98_5 q98_6 q98_9 (fun hf => by (try simp only [rF_sT, rF_sA]); (repeat' (with_reducible apply And.intro)) <;> first | trivial | omega)
          have Ou93 : Im (fz s98 = 0) _ := fun hf => OP.gk0 (Ou25 (zc98 hf)) (X98 hf).2.1
          have Lu94 : Im (fz s98 = 0) _ := fun hf => LI.gk0 hp_2 (Lu26 (zc98 hf)) (Ou25 (zc98 hf)) q98_3 (X98 hf).2.1
          have Ku95 : Im (fz s98 = 0) (GK g g98 (rF σ (rR σ 7) 7) (rF s98 (rR σ 7) 7) 0) := fun hf => GK.gs (Ku27 (zc98 hf)) (X98 hf).2.1
          have Gu96 : Im (fz s98 = 0) _ := fun hf => (X98 hf).1
          have O98 : Im (fz s98 = 0) _ := fun hf => (X98 hf).2.2.1
          have rNMp_98 := e98_0 rNMp_64; clear e98_0
          have TPRp_98 := e98_1 TPRp_64; clear e98_1
          have WNp_98 := e98_2 WNp_64; clear e98_2
          have CCp_98 := e98_3 CCp_64; clear e98_3
          refine ⟨fun c104 => ?_, fun c104 => ?_⟩
          · refine ⟨(by (try simp only [Ks98]); (all_goals (repeat' (first | with_reducible intro _ | with_reducible apply And.intro | with_reducible refine Exists.intro g98 ?_ | with_reducible refine Im.and ?_ ?_))); all_goals (first | assumption | trivial | ((with_reducible refine Im.i fun hf_ => ?_); first | exact (A98 hf_) | exact (Gu96 hf_) | exact (Ku95 hf_) | exact (Ou93 hf_).cst | exact (Lu94 hf_) | exact (O98 hf_).cst | exact ok1.i | (exact LI.z (fun h => absurd h (by decide))) | (exact absurd hf_ (by omega)) | omega) | (unfold NBP; (try simp only [Ks98]); omega) | (unfold NBQ; (try simp only [Ks98]); omega) | omega | (have zz_ := fz_z (by assumption); omega) | (split <;> omega) | done)), ?_⟩
            obtain ⟨gu101, Xu102⟩ := EC_60 (P := fz s98 = 0) (rF s64 0 29) Gu96 O98 (fun hf => by omega)
            have Ou103 : Im (fz s98 = 0) _ := fun hf => OP.kc (Ou93 hf) (Xu102 hf).2.2 (by omega)
            have Lu104 : Im (fz s98 = 0) _ := fun hf => LI.kc (Lu94 hf) (Xu102 hf).2.2
            have O98u105 : Im (fz s98 = 0) _ := fun hf => (Xu102 hf).2.1
            have Ku106 : Im (fz s98 = 0) (GK g gu101 (rF σ (rR σ 7) 7) (rF s98 (rR σ 7) 7) 0) := fun hf => GK.kc (Ku95 hf) (Xu102 hf).2.2 (by omega)
            have Gu107 : Im (fz s98 = 0) _ := fun hf => (Xu102 hf).1
            have A131 : Im (fz s98 = 0) (RG σ (sT s98 (rR σ 7) 5 y52_2 v98) (rR σ 7) 0) := fun hf => RG.tst (f := 5) (i := y52_2) (x := v98) hp_2 (A98 hf) (by decide) (by omega)
            obtain ⟨gs131, Xs131⟩ := EA_1_34 (P := fz s98 = 0) hp_2 Gu107 Ou103 Lu104 O98u105 (fun _ h => h) (fun hf => by omega)
            have Ku108 : Im (fz s98 = 0) (GK g gs131 (rF σ (rR σ 7) 7) (rF s98 (rR σ 7) 7) 0) := fun hf => GK.ks (Ku106 hf) (Xs131 hf).2.2.2.1 (by omega) (by omega)
            have Gu109 : Im (fz s98 = 0) _ := fun hf => (Xs131 hf).1
            have Ou110 : Im (fz s98 = 0) _ := fun hf => (Xs131 hf).2.1
            have Lu111 : Im (fz s98 = 0) _ := fun hf => (Xs131 hf).2.2.1
            exact (by (try simp only [inv_X14_readRow_132, mu_X14_readRow_52, reduceIte, and_true, true_and, and_false, false_and, and_self, Nat.reduceEqDiff, fz_sA, rF_sA, rA_sA, rR_sA, rF_sT, rR_sT, sT_sF, fz_sT, rA_sT26 hp_2, rA_sT27 hp_2, rA_sT34 hp_2, rA_sT35 hp_2, rA_sT36 hp_2, rA_sT37 hp_2, rA_sT40 hp_2, TPRp_sT hp_2, WNp_sT hp_2, VMp_sT hp_2, KYp_sT hp_2, PPp_sT hp_2, WFp_sT hp_2, CCp_sT hp_2, rNMp_sT5, PNp_sT5, rk_n0 hp_2, Ks98]); (all_goals (repeat' (first | with_reducible intro _ | with_reducible apply And.intro | with_reducible refine Exists.intro gs131 ?_ | with_reducible refine Im.and ?_ ?_))); all_goals (first | assumption | trivial | ((with_reducible refine Im.i fun hf_ => ?_); first | exact (A131 hf_) | exact (Gu109 hf_) | exact (Ku108 hf_) | exact (Ou110 hf_).cst | exact (Lu111 hf_) | exact ok1.i | (exact LI.z (fun h => absurd h (by decide))) | (exact absurd hf_ (by omega)) | omega) | (unfold NBP; (try simp only [reduceIte, and_true, true_and, and_false, false_and, and_self, Nat.reduceEqDiff, fz_sA, rF_sA, rA_sA, rR_sA, rF_sT, rR_sT, sT_sF, fz_sT, rA_sT26 hp_2, rA_sT27 hp_2, rA_sT34 hp_2, rA_sT35 hp_2, rA_sT36 hp_2, rA_sT37 hp_2, rA_sT40 hp_2, TPRp_sT hp_2, WNp_sT hp_2, VMp_sT hp_2, KYp_sT hp_2, PPp_sT hp_2, WFp_sT hp_2, CCp_sT hp_2, rNMp_sT5, PNp_sT5, rk_n0 hp_2, Ks98]); omega) | (unfold NBQ; (try simp only [reduceIte, and_true, true_and, and_false, false_and, and_self, Nat.reduceEqDiff, fz_sA, rF_sA, rA_sA, rR_sA, rF_sT, rR_sT, sT_sF, fz_sT, rA_sT26 hp_2, rA_sT27 hp_2, rA_sT34 hp_2, rA_sT35 hp_2, rA_sT36 hp_2, rA_sT37 hp_2, rA_sT40 hp_2, TPRp_sT hp_2, WNp_sT hp_2, VMp_sT hp_2, KYp_sT hp_2, PPp_sT hp_2, WFp_sT hp_2, CCp_sT hp_2, rNMp_sT5, PNp_sT5, rk_n0 hp_2, Ks98]); omega) | omega | (have zz_ := fz_z (by assumption); omega) | (split <;> omega) | done))
          · refine ⟨(by (try simp only [Ks98]); (all_goals (repeat' (first | with_reducible intro _ | with_reducible apply And.intro | with_reducible refine Exists.intro g98 ?_ | with_reducible refine Im.and ?_ ?_))); all_goals (first | assumption | trivial | ((with_reducible refine Im.i fun hf_ => ?_); first | exact (A98 hf_) | exact (Gu96 hf_) | exact (Ku95 hf_) | exact (Ou93 hf_).cst | exact (Lu94 hf_) | exact (O98 hf_).cst | exact ok1.i | (exact LI.z (fun h => absurd h (by decide))) | (exact absurd hf_ (by omega)) | omega) | (unfold NBP; (try simp only [Ks98]); omega) | (unfold NBQ; (try simp only [Ks98]); omega) | omega | (have zz_ := fz_z (by assumption); omega) | (split <;> omega) | done)), ?_⟩
            obtain ⟨gu112, Xu113⟩ := EC_60 (P := fz s98 = 0) (rF s64 0 29) Gu96 O98 (fun hf => by omega)
            have Ou114 : Im (fz s98 = 0) _ := fun hf => OP.kc (Ou93 hf) (Xu113 hf).2.2 (by omega)
            have Lu115 : Im (fz s98 = 0) _ := fun hf => LI.kc (Lu94 hf) (Xu113 hf).2.2
            have O98u116 : Im (fz s98 = 0) _ := fun hf => (Xu113 hf).2.1
            have Ku117 : Im (fz s98 = 0) (GK g gu112 (rF σ (rR σ 7) 7) (rF s98 (rR σ 7) 7) 0) := fun hf => GK.kc (Ku95 hf) (Xu113 hf).2.2 (by omega)
            have Gu118 : Im (fz s98 = 0) _ := fun hf => (Xu113 hf).1
            have A117 : Im (fz s98 = 0) (RG σ (sT s98 (rR σ 7) 1 y52_1 v98) (rR σ 7) 0) := fun hf => RG.tst (f := 1) (i := y52_1) (x := v98) hp_2 (A98 hf) (by decide) (by omega)
            obtain ⟨gs117, Xs117⟩ := EH_1_34 (P := fz s98 = 0) hp_2 Gu118 Ou114 Lu115 O98u116 (fun _ h => h) (fun hf => by omega)
            have Ku119 : Im (fz s98 = 0) (GK g gs117 (rF σ (rR σ 7) 7) (rF s98 (rR σ 7) 7) 0) := fun hf => GK.ks (Ku117 hf) (Xs117 hf).2.2.2.1 (by omega) (by omega)
            have Gu120 : Im (fz s98 = 0) _ := fun hf => (Xs117 hf).1
            have Ou121 : Im (fz s98 = 0) _ := fun hf => (Xs117 hf).2.1
            have Lu122 : Im (fz s98 = 0) _ := fun hf => (Xs117 hf).2.2.1
            exact (by (try simp only [inv_X14_readRow_132, mu_X14_readRow_52, reduceIte, and_true, true_and, and_false, false_and, and_self, Nat.reduceEqDiff, fz_sA, rF_sA, rA_sA, rR_sA, rF_sT, rR_sT, sT_sF, fz_sT, rA_sT26 hp_2, rA_sT27 hp_2, rA_sT34 hp_2, rA_sT35 hp_2, rA_sT36 hp_2, rA_sT37 hp_2, rA_sT40 hp_2, TPRp_sT hp_2, WNp_sT hp_2, VMp_sT hp_2, KYp_sT hp_2, PPp_sT hp_2, WFp_sT hp_2, CCp_sT hp_2, rNMp_sT1, PNp_sT1, rk_n0 hp_2, Ks98]); (all_goals (repeat' (first | with_reducible intro _ | with_reducible apply And.intro | with_reducible refine Exists.intro gs117 ?_ | with_reducible refine Im.and ?_ ?_))); all_goals (first | assumption | trivial | ((with_reducible refine Im.i fun hf_ => ?_); first | exact (A117 hf_) | exact (Gu120 hf_) | exact (Ku119 hf_) | exact (Ou121 hf_).cst | exact (Lu122 hf_) | exact ok1.i | (exact LI.z (fun h => absurd h (by decide))) | (exact absurd hf_ (by omega)) | omega) | (unfold NBP; (try simp only [reduceIte, and_true, true_and, and_false, false_and, and_self, Nat.reduceEqDiff, fz_sA, rF_sA, rA_sA, rR_sA, rF_sT, rR_sT, sT_sF, fz_sT, rA_sT26 hp_2, rA_sT27 hp_2, rA_sT34 hp_2, rA_sT35 hp_2, rA_sT36 hp_2, rA_sT37 hp_2, rA_sT40 hp_2, TPRp_sT hp_2, WNp_sT hp_2, VMp_sT hp_2, KYp_sT hp_2, PPp_sT hp_2, WFp_sT hp_2, CCp_sT hp_2, rNMp_sT1, PNp_sT1, rk_n0 hp_2, Ks98]); omega) | (unfold NBQ; (try simp only [reduceIte, and_true, true_and, and_false, false_and, and_self, Nat.reduceEqDiff, fz_sA, rF_sA, rA_sA, rR_sA, rF_sT, rR_sT, sT_sF, fz_sT, rA_sT26 hp_2, rA_sT27 hp_2, rA_sT34 hp_2, rA_sT35 hp_2, rA_sT36 hp_2, rA_sT37 hp_2, rA_sT40 hp_2, TPRp_sT hp_2, WNp_sT hp_2, VMp_sT hp_2, KYp_sT hp_2, PPp_sT hp_2, WFp_sT hp_2, CCp_sT hp_2, rNMp_sT1, PNp_sT1, rk_n0 hp_2, Ks98]); omega) | omega | (have zz_ := fz_z (by assumption); omega) | (split <;> omega) | done))
set_option maxHeartbeats 20000000 in
theorem vX14_readRow_52m (n : Nat) (σ : rS) (gg : Nat) (g : Nat → Int → Int) (hwf : rWF σ) (hp : pre_X14_readRow σ gg g) (hr : rk_X14_readRow σ gg g ≤ n + 1) : VC_X14_readRow_52m n σ gg g := by
  unfold pre_X14_readRow at hp
  obtain ⟨hp_1, hp_2, hp_3, hp_4, hp_5, hp_6, hp_7, hp_8, hp_9, hp_10⟩ := hp
  subst hp_1
  unfold rk_X14_readRow at hr
  have hN := hp_4
  unfold NBP at hN
  have hC := hp_3
  unfold CCp at hC
  obtain ⟨hC1, hC⟩ := hC
  have zr0 := fz_rng σ
  have hr2 : fz σ = 0 → 16 * (21 - rF σ 0 31).toNat + 4 ≤ n + 1 := fun h => by rw [if_pos h] at hr; exact hr
  have hr3 : 4 ≤ n + 1 := by have := hr; split at this <;> omega
  clear hr
  unfold VC_X14_readRow_52m
  (try simp only [inv_X14_readRow_52, mu_X14_readRow_52]); (all_goals (repeat' (first | with_reducible intro _ | with_reducible apply And.intro))); all_goals (first | assumption | omega | grind (splits := 20))
