def inv_X14_readBoth_39 (σ : rS) (gg : Nat) (g : Nat → Int → Int)  (s : rS) (it : Int) (last : Int) : Prop := fz σ = 0 ∧ NBQ σ s gg 2 0 0 0 (rF σ 0 31) ∧ rNMp s ∧ WNp s ∧ PNp s ∧ 0 < it ∧ it < (rF s gg 7) ∧ 0 < last ∧ last < (rF s gg 7) ∧ (rF σ gg 7) ≤ it ∧ (rF σ gg 7) ≤ last ∧ ORp ((rF s gg 7) + 3 * (rF s 0 38) + 4 * (rF σ 0 29) + 1 ≤ (rF σ gg 7) + 3 * (rF σ 0 38) + 4 * (rF s 0 29)) (TWp (rA s 1026) (rF σ 0 28) (rF s 0 29) 38) ∧ Im (fz s = 0) (RG σ s gg 0) ∧ ∃ h, Im (fz s = 0) (GS s gg h ∧ GK g h (rF σ gg 7) (rF s gg 7) 0 ∧ OP s gg h it 56 ((rF σ 0 31)) ((rF σ 0 29)) ((rF s 0 29)) ((rF s 0 29)) 0 ∧ LI s gg h it 1 56 last ∧ ok1)
def mu_X14_readBoth_39 (σ : rS) (gg : Nat) (g : Nat → Int → Int) (s : rS) (it : Int) (last : Int) : Nat := (1 + (4004 - (rF s 0 29)).toNat)
def VC_X14_readBoth (n : Nat) (σ : rS) (gg : Nat) (g : Nat → Int → Int) (Q : Int → rS → Prop) : Prop := rgk (rR σ 7) ∧ ∃ (g10 : Nat → Int → Int), pre_X14_readNot σ gg g10 ∧ rk_X14_readNot σ gg g10 ≤ n ∧ (∀ (v1 : Int) (s1 : rS), rng v1 → rWF s1 → (CCp σ → CCp s1) → rR s1 7 = rR σ 7 → rF s1 0 14 = rF σ 0 14 → rF s1 0 19 = rF σ 0 19 → rF s1 0 28 = rF σ 0 28 → rF s1 0 30 = rF σ 0 30 → rF s1 0 32 = rF σ 0 32 → rF s1 0 33 = rF σ 0 33 → (∀ i, rA s1 1026 i = rA σ 1026 i) → post_X14_readNot σ gg g10 v1 s1 → pre_X14_blanks s1 ∧ (∀ (s6 : rS), rWF s6 → (rNMp s1 → rNMp s6) → (WNp s1 → WNp s6) → (PNp s1 → PNp s6) → (CCp s1 → CCp s6) → rR s6 7 = rR s1 7 → rF s6 0 14 = rF s1 0 14 → rF s6 0 19 = rF s1 0 19 → rF s6 0 28 = rF s1 0 28 → rF s6 0 30 = rF s1 0 30 → rF s6 0 31 = rF s1 0 31 → rF s6 0 32 = rF s1 0 32 → rF s6 0 33 = rF s1 0 33 → rF s6 0 38 = rF s1 0 38 → rF s6 0 39 = rF s1 0 39 → (∀ i, rA s6 1026 i = rA s1 1026 i) → rF s6 (rR σ 7) 7 = rF s1 (rR σ 7) 7 → rF s6 (rR σ 7) 9 = rF s1 (rR σ 7) 9 → rF s6 (rR σ 7) 12 = rF s1 (rR σ 7) 12 → rF s6 (rR σ 7) 32 = rF s1 (rR σ 7) 32 → rF s6 (rR σ 7) 38 = rF s1 (rR σ 7) 38 → fz s6 = fz s1 → RG s1 s6 (rR σ 7) 0 → post_X14_blanks s1 s6 → (rng (rF s6 0 10) → ((¬ (rF s6 0 10) = 0 → Q v1 s6) ∧ ((rF s6 0 10) = 0 → pre_X14_isTwice_t s6 38 ∧ (∀ (v19 : Int), rng v19 → post_X14_isTwice_t s6 38 v19 → ((¬ v19 = 0 → pre_X14_node_t s6 56 v1 0 0 gg ∧ (∀ (v33 : Int) (s33 : rS), rng v33 → rWF s33 → (rNMp s6 → rNMp s33) → (WNp s6 → WNp s33) → (CCp s6 → CCp s33) → rR s33 7 = rR s6 7 → rF s33 0 14 = rF s6 0 14 → rF s33 0 19 = rF s6 0 19 → rF s33 0 28 = rF s6 0 28 → rF s33 0 29 = rF s6 0 29 → rF s33 0 30 = rF s6 0 30 → rF s33 0 31 = rF s6 0 31 → rF s33 0 32 = rF s6 0 32 → rF s33 0 33 = rF s6 0 33 → rF s33 0 38 = rF s6 0 38 → rF s33 0 39 = rF s6 0 39 → (∀ i, rA s33 1026 i = rA s6 1026 i) → rF s33 (rR σ 7) 9 = rF s6 (rR σ 7) 9 → rF s33 (rR σ 7) 12 = rF s6 (rR σ 7) 12 → rF s33 (rR σ 7) 32 = rF s6 (rR σ 7) 32 → rF s33 (rR σ 7) 38 = rF s6 (rR σ 7) 38 → fz s33 = fz s6 → post_X14_node_t s6 56 v1 0 0 gg v33 s33 → (inv_X14_readBoth_39 σ gg g s33 v33 v1))) ∧ (v19 = 0 → Q v1 s6))))))))
def VC_X14_readBoth_39 (n : Nat) (σ : rS) (gg : Nat) (g : Nat → Int → Int) (Q : Int → rS → Prop) : Prop := ∀ (s39 : rS) (y39_2 : Int) (y39_3 : Int), rWF s39 → rng y39_2 → rng y39_3 → (CCp σ → CCp s39) → rR s39 7 = rR σ 7 → rF s39 0 14 = rF σ 0 14 → rF s39 0 19 = rF σ 0 19 → rF s39 0 28 = rF σ 0 28 → rF s39 0 30 = rF σ 0 30 → rF s39 0 32 = rF σ 0 32 → rF s39 0 33 = rF σ 0 33 → (∀ i, rA s39 1026 i = rA σ 1026 i) → inv_X14_readBoth_39 σ gg g s39 y39_2 y39_3 → ((rng (rF s39 0 10) → ((¬ (rF s39 0 10) = 0 → Q y39_2 s39) ∧ ((rF s39 0 10) = 0 → pre_X14_isTwice_t s39 38 ∧ (∀ (v49 : Int), rng v49 → post_X14_isTwice_t s39 38 v49 → ((v49 = 0 → Q y39_2 s39) ∧ (¬ v49 = 0 → (rng (rF s39 0 29) → rng ((rF s39 0 29) + 2) ∧ ∃ (g19 : Nat → Int → Int), pre_X14_readNot (sF s39 0 29 ((rF s39 0 29) + 2)) gg g19 ∧ rk_X14_readNot (sF s39 0 29 ((rF s39 0 29) + 2)) gg g19 ≤ n ∧ (∀ (v66 : Int) (s66 : rS), rng v66 → rWF s66 → (CCp (sF s39 0 29 ((rF s39 0 29) + 2)) → CCp s66) → rR s66 7 = rR (sF s39 0 29 ((rF s39 0 29) + 2)) 7 → rF s66 0 14 = rF (sF s39 0 29 ((rF s39 0 29) + 2)) 0 14 → rF s66 0 19 = rF (sF s39 0 29 ((rF s39 0 29) + 2)) 0 19 → rF s66 0 28 = rF (sF s39 0 29 ((rF s39 0 29) + 2)) 0 28 → rF s66 0 30 = rF (sF s39 0 29 ((rF s39 0 29) + 2)) 0 30 → rF s66 0 32 = rF (sF s39 0 29 ((rF s39 0 29) + 2)) 0 32 → rF s66 0 33 = rF (sF s39 0 29 ((rF s39 0 29) + 2)) 0 33 → (∀ i, rA s66 1026 i = rA (sF s39 0 29 ((rF s39 0 29) + 2)) 1026 i) → post_X14_readNot (sF s39 0 29 ((rF s39 0 29) + 2)) gg g19 v66 s66 → (rng (rF s66 0 10) → (((rF s66 0 10) = 0 → (0 ≤ y39_3 ∧ y39_3 < 50000) ∧ pre_X14_blanks (sT s66 (rR σ 7) 5 y39_3 v66) ∧ (∀ (s95 : rS), rWF s95 → (rNMp (sT s66 (rR σ 7) 5 y39_3 v66) → rNMp s95) → (WNp (sT s66 (rR σ 7) 5 y39_3 v66) → WNp s95) → (PNp (sT s66 (rR σ 7) 5 y39_3 v66) → PNp s95) → (CCp (sT s66 (rR σ 7) 5 y39_3 v66) → CCp s95) → rR s95 7 = rR (sT s66 (rR σ 7) 5 y39_3 v66) 7 → rF s95 0 14 = rF (sT s66 (rR σ 7) 5 y39_3 v66) 0 14 → rF s95 0 19 = rF (sT s66 (rR σ 7) 5 y39_3 v66) 0 19 → rF s95 0 28 = rF (sT s66 (rR σ 7) 5 y39_3 v66) 0 28 → rF s95 0 30 = rF (sT s66 (rR σ 7) 5 y39_3 v66) 0 30 → rF s95 0 31 = rF (sT s66 (rR σ 7) 5 y39_3 v66) 0 31 → rF s95 0 32 = rF (sT s66 (rR σ 7) 5 y39_3 v66) 0 32 → rF s95 0 33 = rF (sT s66 (rR σ 7) 5 y39_3 v66) 0 33 → rF s95 0 38 = rF (sT s66 (rR σ 7) 5 y39_3 v66) 0 38 → rF s95 0 39 = rF (sT s66 (rR σ 7) 5 y39_3 v66) 0 39 → (∀ i, rA s95 1026 i = rA (sT s66 (rR σ 7) 5 y39_3 v66) 1026 i) → rF s95 (rR σ 7) 7 = rF (sT s66 (rR σ 7) 5 y39_3 v66) (rR σ 7) 7 → rF s95 (rR σ 7) 9 = rF (sT s66 (rR σ 7) 5 y39_3 v66) (rR σ 7) 9 → rF s95 (rR σ 7) 12 = rF (sT s66 (rR σ 7) 5 y39_3 v66) (rR σ 7) 12 → rF s95 (rR σ 7) 32 = rF (sT s66 (rR σ 7) 5 y39_3 v66) (rR σ 7) 32 → rF s95 (rR σ 7) 38 = rF (sT s66 (rR σ 7) 5 y39_3 v66) (rR σ 7) 38 → fz s95 = fz (sT s66 (rR σ 7) 5 y39_3 v66) → RG (sT s66 (rR σ 7) 5 y39_3 v66) s95 (rR σ 7) 0 → post_X14_blanks (sT s66 (rR σ 7) 5 y39_3 v66) s95 → (inv_X14_readBoth_39 σ gg g s95 y39_2 v66 ∧ (mu_X14_readBoth_39 σ gg g s95 y39_2 v66) < (mu_X14_readBoth_39 σ gg g s39 y39_2 y39_3)))) ∧ (¬ (rF s66 0 10) = 0 → Q 0 s66))))))))))))
def VC_X14_readBoth_39m (n : Nat) (σ : rS) (gg : Nat) (g : Nat → Int → Int) : Prop := ∀ (s39 : rS) (y39_2 : Int) (y39_3 : Int), rWF s39 → rng y39_2 → rng y39_3 → (CCp σ → CCp s39) → rR s39 7 = rR σ 7 → rF s39 0 14 = rF σ 0 14 → rF s39 0 19 = rF σ 0 19 → rF s39 0 28 = rF σ 0 28 → rF s39 0 30 = rF σ 0 30 → rF s39 0 32 = rF σ 0 32 → rF s39 0 33 = rF σ 0 33 → (∀ i, rA s39 1026 i = rA σ 1026 i) → inv_X14_readBoth_39 σ gg g s39 y39_2 y39_3 → 0 < (mu_X14_readBoth_39 σ gg g s39 y39_2 y39_3)
set_option maxHeartbeats 20000000 in
theorem vX14_readBoth (n : Nat) (σ : rS) (gg : Nat) (g : Nat → Int → Int) (hwf : rWF σ) (hp : pre_X14_readBoth σ gg g) (hr : rk_X14_readBoth σ gg g ≤ n + 1) : VC_X14_readBoth n σ gg g (post_X14_readBoth σ gg g) := by
  unfold pre_X14_readBoth at hp
  obtain ⟨hp_1, hp_2, hp_3, hp_4, hp_5, hp_6, hp_7, hp_8⟩ := hp
  subst hp_1
  unfold rk_X14_readBoth at hr
  have hN := hp_4
  unfold NBP at hN
  have hC := hp_3
  unfold CCp at hC
  obtain ⟨hC1, hC⟩ := hC
  have zr0 := fz_rng σ
  have hr2 : fz σ = 0 → 16 * (21 - rF σ 0 31).toNat + 10 ≤ n + 1 := fun h => by rw [if_pos h] at hr; exact hr
  have hr3 : 10 ≤ n + 1 := by have := hr; split at this <;> omega
  clear hr
  unfold VC_X14_readBoth
  refine ⟨(by (all_goals (repeat' (first | with_reducible intro _ | with_reducible apply And.intro))); all_goals (first | assumption | trivial | (unfold NBP; omega) | (unfold NBQ; omega) | omega | (have zz_ := fz_z (by assumption); omega) | (split <;> omega) | (exact (show ORp _ _ from Or.inl (by omega))) | done)), ?_⟩
  refine ⟨g, ?_⟩
  refine ⟨(by (try simp only [pre_X14_readNot]); (all_goals (repeat' (first | with_reducible intro _ | with_reducible apply And.intro | with_reducible refine Exists.intro g ?_ | with_reducible refine Im.and ?_ ?_))); all_goals (first | assumption | trivial | ((with_reducible refine Im.i fun hf_ => ?_); first | exact ((fun _ => RG.rf) hf_) | exact (hp_8 hf_) | exact ((fun _ => GK.rf) hf_) | exact ok1.i | (exact LI.z (fun h => absurd h (by decide))) | (exact absurd hf_ (by omega)) | omega) | (unfold NBP; omega) | (unfold NBQ; omega) | omega | (have zz_ := fz_z (by assumption); omega) | (split <;> omega) | (exact (show ORp _ _ from Or.inl (by omega))) | done)), ?_⟩
  refine ⟨(by (try simp only [rk_X14_readNot]); (all_goals (repeat' (first | with_reducible intro _ | with_reducible apply And.intro | with_reducible refine Exists.intro g ?_ | with_reducible refine Im.and ?_ ?_))); all_goals (first | assumption | trivial | ((with_reducible refine Im.i fun hf_ => ?_); first | exact ((fun _ => RG.rf) hf_) | exact (hp_8 hf_) | exact ((fun _ => GK.rf) hf_) | exact ok1.i | (exact LI.z (fun h => absurd h (by decide))) | (exact absurd hf_ (by omega)) | omega) | (unfold NBP; omega) | (unfold NBQ; omega) | omega | (have zz_ := fz_z (by assumption); omega) | (split <;> omega) | (exact (show ORp _ _ from Or.inl (by omega))) | done)), ?_⟩
  intro v1 s1 hv1 Ws1 e1_0 e1_1 e1_2 e1_3 e1_4 e1_5 e1_6 e1_7 e1_8 q1
  unfold rng at hv1
  unfold post_X14_readNot at q1
  obtain ⟨q1_1, q1_2, q1_3, q1_4, q1_5, q1_6, q1_7, q1_8, q1_9⟩ := q1
  (try simp only [NBP, NBQ] at q1_1 q1_2 q1_3 q1_4 q1_5 q1_6 q1_7 q1_8 q1_9 e1_0 e1_1 e1_2 e1_3 e1_4 e1_5 e1_6 e1_7 e1_8)
  have Ks1 : rR s1 7 = rR σ 7 := by first | assumption | ((try simp only [rR_sF, rR_sA, rR_sT, rR_sL] at e1_0 e1_1 e1_2 e1_3 e1_4 e1_5 e1_6 e1_7 e1_8); omega)
  have zr1 := fz_rng s1
  have zc1 : fz s1 = 0 → fz σ = 0 := fun hf => by omega
  have A1 : Im (fz s1 = 0) (RG σ s1 (rR σ 7) 0) := fun hf => RG.trk hp_2 ((fun _ => RG.rf) (zc1 hf)) (q1_8 (by omega)) (Or.inr (Or.inl rfl))
  obtain ⟨g1, X1⟩ := q1_9
  have Ku1 : Im (fz s1 = 0) (GK g g1 (rF σ (rR σ 7) 7) (rF s1 (rR σ 7) 7) 0) := fun hf => GK.trans ((fun _ => GK.rf) (zc1 hf)) ((X1 hf).2.1) (Or.inr (Or.inl rfl))
  have Gu2 : Im (fz s1 = 0) (GS s1 (rR σ 7) g1) := fun hf => (X1 hf).1
  have r1 : Im (fz s1 = 0) _ := fun hf => (X1 hf).2.2.1
  have CCp_1 := e1_0 hp_3; clear e1_0
  refine ⟨(by (try simp only [pre_X14_blanks, Ks1]); (all_goals (repeat' (first | with_reducible intro _ | with_reducible apply And.intro | with_reducible refine Exists.intro g1 ?_ | with_reducible refine Im.and ?_ ?_))); all_goals (first | assumption | trivial | ((with_reducible refine Im.i fun hf_ => ?_); first | exact (A1 hf_) | exact (Gu2 hf_) | exact (Ku1 hf_) | exact (r1 hf_).cst | exact ((r1 hf_).so so_16_15).cst | exact ((r1 hf_).so so_16_14).cst | exact ok1.i | (exact LI.z (fun h => absurd h (by decide))) | (exact absurd hf_ (by omega)) | omega) | (unfold NBP; (try simp only [Ks1]); omega) | (unfold NBQ; (try simp only [Ks1]); omega) | omega | (have zz_ := fz_z (by assumption); omega) | (split <;> omega) | (exact (show ORp _ _ from Or.inl (by omega))) | done)), ?_⟩
  intro s6 Ws6 e6_0 e6_1 e6_2 e6_3 e6_4 e6_5 e6_6 e6_7 e6_8 e6_9 e6_10 e6_11 e6_12 e6_13 e6_14 e6_15 e6_16 e6_17 e6_18 e6_19 e6_20 R6 q6
  have q6 := dig_blanks q6 (by (try simp only [Ks1]); omega)
  obtain ⟨q6_1, q6_2⟩ := q6
  (try simp only [Ks1, NBP, NBQ] at q6_1 q6_2 e6_0 e6_1 e6_2 e6_3 e6_4 e6_5 e6_6 e6_7 e6_8 e6_9 e6_10 e6_11 e6_12 e6_13 e6_14 e6_15 e6_16 e6_17 e6_18 e6_19 e6_20 R6)
  have Ks6 : rR s6 7 = rR σ 7 := by first | assumption | ((try simp only [rR_sF, rR_sA, rR_sT, rR_sL] at e6_0 e6_1 e6_2 e6_3 e6_4 e6_5 e6_6 e6_7 e6_8 e6_9 e6_10 e6_11 e6_12 e6_13 e6_14 e6_15 e6_16 e6_17 e6_18 e6_19 e6_20 R6); omega)
  have zr6 := fz_rng s6
  have zc6 : fz s6 = 0 → fz s1 = 0 := fun hf => by omega
  have A6 : Im (fz s6 = 0) (RG σ s6 (rR σ 7) 0) := fun hf => RG.trk hp_2 (A1 (zc6 hf)) R6 (Or.inr (Or.inl rfl))
  have r1u3 : Im (fz s6 = 0) _ := fun hf => NR.gk (r1 (zc6 hf)) (GK.up (g := g1) (N := rF s1 (rR σ 7) 7) (N' := rF s6 (rR σ 7) 7) (c := 0) (by first | assumption | omega | (simp only [rF_sT, rF_sA]; omega)))
  have Ku4 : Im (fz s6 = 0) (GK g g1 (rF σ (rR σ 7) 7) (rF s6 (rR σ 7) 7) 0) := fun hf => GK.trans (Ku1 (zc6 hf)) (GK.up (N := rF s1 (rR σ 7) 7) (N' := rF s6 (rR σ 7) 7) (c := 0) (by first | assumption | omega | (simp only [rF_sT, rF_sA]; omega))) (Or.inr (Or.inl rfl))
  have Gu5 : Im (fz s6 = 0) (GS s6 (rR σ 7) g1) := fun hf => GS.mv hp_2 (Gu2 (zc6 hf)) R6 (by first | assumption | omega | (simp only [rF_sT, rF_sA]; omega)) (by first | (exact Int.le_of_eq (Eq.symm (by assumption))) | omega | (simp only [rF_sT, rF_sA]; omega))
  have rNMp_6 := e6_0 q1_2; clear e6_0
  have WNp_6 := e6_1 q1_3; clear e6_1
  have PNp_6 := e6_2 q1_4; clear e6_2
  have CCp_6 := e6_3 CCp_1; clear e6_3
  intro hr_; unfold rng at hr_
  refine ⟨fun c13 => ?_, fun c13 => ?_⟩
  · have z13 := fz_n c13
    exact (by (try simp only [post_X14_readBoth, Ks6]); (all_goals (repeat' (first | with_reducible intro _ | with_reducible apply And.intro | with_reducible refine Exists.intro g1 ?_ | with_reducible refine Im.and ?_ ?_))); all_goals (first | assumption | trivial | ((with_reducible refine Im.i fun hf_ => ?_); first | exact (A6 hf_) | exact (Gu5 hf_) | exact (Ku4 hf_) | exact (r1u3 hf_).cst | exact ((r1u3 hf_).so so_16_15).cst | exact ((r1u3 hf_).so so_16_14).cst | exact ok1.i | (exact LI.z (fun h => absurd h (by decide))) | (exact absurd hf_ (by omega)) | omega) | (unfold NBP; (try simp only [Ks6]); omega) | (unfold NBQ; (try simp only [Ks6]); omega) | omega | (have zz_ := fz_z (by assumption); omega) | (split <;> omega) | (exact (show ORp _ _ from Or.inl (by omega))) | done))
  · have z13 := fz_z c13
    refine ⟨(by (try simp only [pre_X14_isTwice_t, Ks6]); (all_goals (repeat' (first | with_reducible intro _ | with_reducible apply And.intro | with_reducible refine Exists.intro g1 ?_ | with_reducible refine Im.and ?_ ?_))); all_goals (first | assumption | trivial | ((with_reducible refine Im.i fun hf_ => ?_); first | exact (A6 hf_) | exact (Gu5 hf_) | exact (Ku4 hf_) | exact (r1u3 hf_).cst | exact ((r1u3 hf_).so so_16_15).cst | exact ((r1u3 hf_).so so_16_14).cst | exact ok1.i | (exact LI.z (fun h => absurd h (by decide))) | (exact absurd hf_ (by omega)) | omega) | (unfold NBP; (try simp only [Ks6]); omega) | (unfold NBQ; (try simp only [Ks6]); omega) | omega | (have zz_ := fz_z (by assumption); omega) | (split <;> omega) | (exact (show ORp _ _ from Or.inl (by omega))) | done)), ?_⟩
    intro v19 hv19 q19
    unfold rng at hv19
    unfold post_X14_isTwice_t at q19
    obtain ⟨q19_1, q19_2, q19_3, q19_4⟩ := q19
    (try simp only [Ks6, NBP, NBQ] at q19_1 q19_2 q19_3 q19_4)
    refine ⟨fun c22 => ?_, fun c22 => ?_⟩
    · refine ⟨(by (try simp only [pre_X14_node_t, Ks6]); (all_goals (repeat' (first | with_reducible intro _ | with_reducible apply And.intro | with_reducible refine Exists.intro g1 ?_ | with_reducible refine Im.and ?_ ?_))); all_goals (first | assumption | trivial | ((with_reducible refine Im.i fun hf_ => ?_); first | exact (A6 hf_) | exact (Gu5 hf_) | exact (Ku4 hf_) | exact (r1u3 hf_).cst | exact ((r1u3 hf_).so so_16_15).cst | exact ((r1u3 hf_).so so_16_14).cst | exact ok1.i | (exact LI.z (fun h => absurd h (by decide))) | (exact absurd hf_ (by omega)) | omega) | (unfold NBP; (try simp only [Ks6]); omega) | (unfold NBQ; (try simp only [Ks6]); omega) | omega | (have zz_ := fz_z (by assumption); omega) | (split <;> omega) | (exact (show ORp _ _ from Or.inl (by omega))) | done)), ?_⟩
      intro v33 s33 hv33 Ws33 e33_0 e33_1 e33_2 e33_3 e33_4 e33_5 e33_6 e33_7 e33_8 e33_9 e33_10 e33_11 e33_12 e33_13 e33_14 e33_15 e33_16 e33_17 e33_18 e33_19 q33
      unfold rng at hv33
      unfold post_X14_node_t at q33
      obtain ⟨q33_1, q33_2, q33_3, q33_4, q33_5, q33_6, q33_7, q33_8, q33_9, q33_10⟩ := q33
      (try simp only [Ks6, NBP, NBQ] at q33_1 q33_2 q33_3 q33_4 q33_5 q33_6 q33_7 q33_8 q33_9 q33_10 e33_0 e33_1 e33_2 e33_3 e33_4 e33_5 e33_6 e33_7 e33_8 e33_9 e33_10 e33_11 e33_12 e33_13 e33_14 e33_15 e33_16 e33_17 e33_18 e33_19)
      have Ks33 : rR s33 7 = rR σ 7 := by first | assumption | ((try simp only [rR_sF, rR_sA, rR_sT, rR_sL] at e33_0 e33_1 e33_2 e33_3 e33_4 e33_5 e33_6 e33_7 e33_8 e33_9 e33_10 e33_11 e33_12 e33_13 e33_14 e33_15 e33_16 e33_17 e33_18 e33_19); omega)
      have zr33 := fz_rng s33
      have zc33 : fz s33 = 0 → fz s6 = 0 := fun hf => by omega
      have A33 : Im (fz s33 = 0) (RG σ s33 (rR σ 7) 0) := fun hf => RG.trk hp_2 (A6 (zc33 hf)) q33_3 (Or.inr (Or.inl rfl))
      obtain ⟨g33, X33⟩ := EV_56 (P := fz s33 = 0) (rF σ 0 29) (rF s1 0 31) hp_2 (fun hf => Gu5 (zc33 hf)) (fun hf => r1u3 (zc33 hf)) (fun _ h => h) (fun hf => q33_3) q33_1 q33_2 q33_4 q33_5 q33_6 q33_9 (fun hf => by (try simp only [rF_sT, rF_sA]); (repeat' (with_reducible apply And.intro)) <;> first | trivial | omega)
      have Ku6 : Im (fz s33 = 0) (GK g g33 (rF σ (rR σ 7) 7) (rF s33 (rR σ 7) 7) 0) := fun hf => GK.kv (Ku4 (zc33 hf)) (X33 hf).2.1 (by omega)
      have Gu7 : Im (fz s33 = 0) _ := fun hf => (X33 hf).1
      have O33 : Im (fz s33 = 0) _ := fun hf => (X33 hf).2.2.1
      have L33_1 : Im (fz s33 = 0) _ := fun hf => (X33 hf).2.2.2.1
      have rNMp_33 := e33_0 rNMp_6; clear e33_0
      have WNp_33 := e33_1 WNp_6; clear e33_1
      have CCp_33 := e33_2 CCp_6; clear e33_2
      have TW_ : ORp (rF s33 (rR σ 7) 7 + 3 * rF s33 0 38 + 4 * rF σ 0 29 + 1 ≤ rF σ (rR σ 7) 7 + 3 * rF σ 0 38 + 4 * rF s33 0 29) (TWp (rA s33 1026) (rF σ 0 28) (rF s33 0 29) 38) := Or.inr (by rw [show rA s33 1026 = rA s6 1026 from funext (by assumption), show rF s33 0 29 = rF s6 0 29 by omega, show rF σ 0 28 = rF s6 0 28 by omega]; exact q19_3 (by omega))
      exact (by (try simp only [inv_X14_readBoth_39, Ks33]); (all_goals (repeat' (first | with_reducible intro _ | with_reducible apply And.intro | with_reducible refine Exists.intro g33 ?_ | with_reducible refine Im.and ?_ ?_))); all_goals (first | assumption | trivial | ((with_reducible refine Im.i fun hf_ => ?_); first | exact (A33 hf_) | exact (Gu7 hf_) | exact (Ku6 hf_) | exact (O33 hf_).cst | exact (L33_1 hf_) | exact ok1.i | (exact LI.z (fun h => absurd h (by decide))) | (exact absurd hf_ (by omega)) | omega) | (unfold NBP; (try simp only [Ks33]); omega) | (unfold NBQ; (try simp only [Ks33]); omega) | omega | (have zz_ := fz_z (by assumption); omega) | (split <;> omega) | (exact (show ORp _ _ from Or.inl (by omega))) | done))
    · exact (by (try simp only [post_X14_readBoth, Ks6]); (all_goals (repeat' (first | with_reducible intro _ | with_reducible apply And.intro | with_reducible refine Exists.intro g1 ?_ | with_reducible refine Im.and ?_ ?_))); all_goals (first | assumption | trivial | ((with_reducible refine Im.i fun hf_ => ?_); first | exact (A6 hf_) | exact (Gu5 hf_) | exact (Ku4 hf_) | exact (r1u3 hf_).cst | exact ((r1u3 hf_).so so_16_15).cst | exact ((r1u3 hf_).so so_16_14).cst | exact ok1.i | (exact LI.z (fun h => absurd h (by decide))) | (exact absurd hf_ (by omega)) | omega) | (unfold NBP; (try simp only [Ks6]); omega) | (unfold NBQ; (try simp only [Ks6]); omega) | omega | (have zz_ := fz_z (by assumption); omega) | (split <;> omega) | (exact (show ORp _ _ from Or.inl (by omega))) | done))
set_option maxHeartbeats 20000000 in
theorem vX14_readBoth_39 (n : Nat) (σ : rS) (gg : Nat) (g : Nat → Int → Int) (hwf : rWF σ) (hp : pre_X14_readBoth σ gg g) (hr : rk_X14_readBoth σ gg g ≤ n + 1) : VC_X14_readBoth_39 n σ gg g (post_X14_readBoth σ gg g) := by
  unfold pre_X14_readBoth at hp
  obtain ⟨hp_1, hp_2, hp_3, hp_4, hp_5, hp_6, hp_7, hp_8⟩ := hp
  subst hp_1
  unfold rk_X14_readBoth at hr
  have hN := hp_4
  unfold NBP at hN
  have hC := hp_3
  unfold CCp at hC
  obtain ⟨hC1, hC⟩ := hC
  have zr0 := fz_rng σ
  have hr2 : fz σ = 0 → 16 * (21 - rF σ 0 31).toNat + 10 ≤ n + 1 := fun h => by rw [if_pos h] at hr; exact hr
  have hr3 : 10 ≤ n + 1 := by have := hr; split at this <;> omega
  clear hr
  unfold VC_X14_readBoth_39
  intro s39 y39_2 y39_3 Ws39 hy39_2 hy39_3 e39_0 e39_1 e39_2 e39_3 e39_4 e39_5 e39_6 e39_7 e39_8 I39
  have Ks39 : rR s39 7 = rR σ 7 := by omega
  unfold inv_X14_readBoth_39 at I39
  obtain ⟨I39_1, I39_2, I39_3, I39_4, I39_5, I39_6, I39_7, I39_8, I39_9, I39_10, I39_11, I39_12, I39_13, I39_14⟩ := I39
  (try simp only [Ks39, NBP, NBQ] at I39_1 I39_2 I39_3 I39_4 I39_5 I39_6 I39_7 I39_8 I39_9 I39_10 I39_11 I39_12 I39_13 I39_14)
  have zr39 := fz_rng s39
  have CCp_39 := e39_0 hp_3; clear e39_0
  obtain ⟨g39, X39⟩ := I39_14
  have G39 : Im (fz s39 = 0) _ := fun hf => (X39 hf).1
  have KA39 : Im (fz s39 = 0) _ := fun hf => (X39 hf).2.1
  have O39 : Im (fz s39 = 0) _ := fun hf => (X39 hf).2.2.1
  have L39 : Im (fz s39 = 0) _ := fun hf => (X39 hf).2.2.2.1
  intro hr_; unfold rng at hr_
  refine ⟨fun c43 => ?_, fun c43 => ?_⟩
  · have z43 := fz_n c43
    try have S1_ := S_ (by omega)
    obtain ⟨gu8, Xu9⟩ := EC_56 (P := fz s39 = 0) (rF s39 0 29) G39 O39 (fun hf => by omega)
    have Ou10 : Im (fz s39 = 0) _ := fun hf => (Xu9 hf).2.1
    have Ku11 : Im (fz s39 = 0) (GK g gu8 (rF σ (rR σ 7) 7) (rF s39 (rR σ 7) 7) 0) := fun hf => GK.kc (KA39 hf) (Xu9 hf).2.2 (by omega)
    have Gu12 : Im (fz s39 = 0) _ := fun hf => (Xu9 hf).1
    exact (by (try simp only [post_X14_readBoth, Ks39]); (all_goals (repeat' (first | with_reducible intro _ | with_reducible apply And.intro | with_reducible refine Exists.intro gu8 ?_ | with_reducible refine Im.and ?_ ?_))); all_goals (first | assumption | trivial | ((with_reducible refine Im.i fun hf_ => ?_); first | exact (I39_13 hf_) | exact (Gu12 hf_) | exact (Ku11 hf_) | exact (Ou10 hf_).cst | exact ((Ou10 hf_).so so_15_14).cst | exact ok1.i | (exact LI.z (fun h => absurd h (by decide))) | (exact absurd hf_ (by omega)) | omega) | (unfold NBP; (try simp only [Ks39]); omega) | (unfold NBQ; (try simp only [Ks39]); omega) | omega | (have zz_ := fz_z (by assumption); omega) | (split <;> omega) | (exact (show ORp _ _ from Or.inl (by omega))) | done))
  · have z43 := fz_z c43
    refine ⟨(by (try simp only [pre_X14_isTwice_t, Ks39]); (all_goals (repeat' (first | with_reducible intro _ | with_reducible apply And.intro | with_reducible refine Exists.intro g39 ?_ | with_reducible refine Im.and ?_ ?_))); all_goals (first | assumption | trivial | ((with_reducible refine Im.i fun hf_ => ?_); first | exact (I39_13 hf_) | exact (G39 hf_) | exact (KA39 hf_) | exact (O39 hf_).cst | exact (L39 hf_) | exact ok1.i | (exact LI.z (fun h => absurd h (by decide))) | (exact absurd hf_ (by omega)) | omega) | (unfold NBP; (try simp only [Ks39]); omega) | (unfold NBQ; (try simp only [Ks39]); omega) | omega | (have zz_ := fz_z (by assumption); omega) | (split <;> omega) | (exact (show ORp _ _ from Or.inl (by omega))) | done)), ?_⟩
    intro v49 hv49 q49
    unfold rng at hv49
    unfold post_X14_isTwice_t at q49
    obtain ⟨q49_1, q49_2, q49_3, q49_4⟩ := q49
    (try simp only [Ks39, NBP, NBQ] at q49_1 q49_2 q49_3 q49_4)
    have S_ : Im (v49 = 0) (rF s39 (rR σ 7) 7 + 3 * rF s39 0 38 + 4 * rF σ 0 29 + 1 ≤ rF σ (rR σ 7) 7 + 3 * rF σ 0 38 + 4 * rF s39 0 29) := fun h_ => by
      rcases I39_12 with q_ | q_
      · exact q_
      · exact absurd (q49_4 (by rw [show rF s39 0 28 = rF σ 0 28 by omega]; exact q_)) (by omega)
    refine ⟨fun c52 => ?_, fun c52 => ?_⟩
    · try have S1_ := S_ (by omega)
      obtain ⟨gu13, Xu14⟩ := EC_56 (P := fz s39 = 0) (rF s39 0 29) G39 O39 (fun hf => by omega)
      have Ou15 : Im (fz s39 = 0) _ := fun hf => (Xu14 hf).2.1
      have Ku16 : Im (fz s39 = 0) (GK g gu13 (rF σ (rR σ 7) 7) (rF s39 (rR σ 7) 7) 0) := fun hf => GK.kc (KA39 hf) (Xu14 hf).2.2 (by omega)
      have Gu17 : Im (fz s39 = 0) _ := fun hf => (Xu14 hf).1
      exact (by (try simp only [post_X14_readBoth, Ks39]); (all_goals (repeat' (first | with_reducible intro _ | with_reducible apply And.intro | with_reducible refine Exists.intro gu13 ?_ | with_reducible refine Im.and ?_ ?_))); all_goals (first | assumption | trivial | ((with_reducible refine Im.i fun hf_ => ?_); first | exact (I39_13 hf_) | exact (Gu17 hf_) | exact (Ku16 hf_) | exact (Ou15 hf_).cst | exact ((Ou15 hf_).so so_15_14).cst | exact ok1.i | (exact LI.z (fun h => absurd h (by decide))) | (exact absurd hf_ (by omega)) | omega) | (unfold NBP; (try simp only [Ks39]); omega) | (unfold NBQ; (try simp only [Ks39]); omega) | omega | (have zz_ := fz_z (by assumption); omega) | (split <;> omega) | (exact (show ORp _ _ from Or.inl (by omega))) | done))
    · intro hr_; unfold rng at hr_
      refine ⟨(by (try simp only [rng, Ks39]); (all_goals (repeat' (first | with_reducible intro _ | with_reducible apply And.intro | with_reducible refine Exists.intro g39 ?_ | with_reducible refine Im.and ?_ ?_))); all_goals (first | assumption | trivial | ((with_reducible refine Im.i fun hf_ => ?_); first | exact (I39_13 hf_) | exact (G39 hf_) | exact (KA39 hf_) | exact (O39 hf_).cst | exact (L39 hf_) | exact ok1.i | (exact LI.z (fun h => absurd h (by decide))) | (exact absurd hf_ (by omega)) | omega) | (unfold NBP; (try simp only [Ks39]); omega) | (unfold NBQ; (try simp only [Ks39]); omega) | omega | (have zz_ := fz_z (by assumption); omega) | (split <;> omega) | (exact (show ORp _ _ from Or.inl (by omega))) | done)), ?_⟩
      refine ⟨g39, ?_⟩
      refine ⟨(by (try simp only [pre_X14_readNot, reduceIte, and_true, true_and, and_false, false_and, and_self, Nat.reduceEqDiff, fz_sF29, rF_sF, rA_sF, rR_sF, tr_sF, rNMp_sF, PNp_sF, GS_F29, OP_F29, NR_F29, LI_F29, RG_l29, RG_r29, TPRp_sF29, WNp_sF29, VMp_sF29, KYp_sF29, PPp_sF29, WFp_sF29, CCp_sF29, rk_n0 hp_2, Ks39]); (all_goals (repeat' (first | with_reducible intro _ | with_reducible apply And.intro | with_reducible refine Exists.intro g39 ?_ | with_reducible refine Im.and ?_ ?_))); all_goals (first | assumption | trivial | ((with_reducible refine Im.i fun hf_ => ?_); first | exact (I39_13 hf_) | exact (G39 hf_) | exact (KA39 hf_) | exact (O39 hf_).cst | exact (L39 hf_) | exact ok1.i | (exact LI.z (fun h => absurd h (by decide))) | (exact absurd hf_ (by omega)) | omega) | (unfold NBP; (try simp only [reduceIte, and_true, true_and, and_false, false_and, and_self, Nat.reduceEqDiff, fz_sF29, rF_sF, rA_sF, rR_sF, tr_sF, rNMp_sF, PNp_sF, GS_F29, OP_F29, NR_F29, LI_F29, RG_l29, RG_r29, TPRp_sF29, WNp_sF29, VMp_sF29, KYp_sF29, PPp_sF29, WFp_sF29, CCp_sF29, rk_n0 hp_2, Ks39]); omega) | (unfold NBQ; (try simp only [reduceIte, and_true, true_and, and_false, false_and, and_self, Nat.reduceEqDiff, fz_sF29, rF_sF, rA_sF, rR_sF, tr_sF, rNMp_sF, PNp_sF, GS_F29, OP_F29, NR_F29, LI_F29, RG_l29, RG_r29, TPRp_sF29, WNp_sF29, VMp_sF29, KYp_sF29, PPp_sF29, WFp_sF29, CCp_sF29, rk_n0 hp_2, Ks39]); omega) | omega | (have zz_ := fz_z (by assumption); omega) | (split <;> omega) | (exact (show ORp _ _ from Or.inl (by omega))) | done)), ?_⟩
      refine ⟨(by (try simp only [rk_X14_readNot, reduceIte, and_true, true_and, and_false, false_and, and_self, Nat.reduceEqDiff, fz_sF29, rF_sF, rA_sF, rR_sF, tr_sF, rNMp_sF, PNp_sF, GS_F29, OP_F29, NR_F29, LI_F29, RG_l29, RG_r29, TPRp_sF29, WNp_sF29, VMp_sF29, KYp_sF29, PPp_sF29, WFp_sF29, CCp_sF29, rk_n0 hp_2, Ks39]); (all_goals (repeat' (first | with_reducible intro _ | with_reducible apply And.intro | with_reducible refine Exists.intro g39 ?_ | with_reducible refine Im.and ?_ ?_))); all_goals (first | assumption | trivial | ((with_reducible refine Im.i fun hf_ => ?_); first | exact (I39_13 hf_) | exact (G39 hf_) | exact (KA39 hf_) | exact (O39 hf_).cst | exact (L39 hf_) | exact ok1.i | (exact LI.z (fun h => absurd h (by decide))) | (exact absurd hf_ (by omega)) | omega) | (unfold NBP; (try simp only [reduceIte, and_true, true_and, and_false, false_and, and_self, Nat.reduceEqDiff, fz_sF29, rF_sF, rA_sF, rR_sF, tr_sF, rNMp_sF, PNp_sF, GS_F29, OP_F29, NR_F29, LI_F29, RG_l29, RG_r29, TPRp_sF29, WNp_sF29, VMp_sF29, KYp_sF29, PPp_sF29, WFp_sF29, CCp_sF29, rk_n0 hp_2, Ks39]); omega) | (unfold NBQ; (try simp only [reduceIte, and_true, true_and, and_false, false_and, and_self, Nat.reduceEqDiff, fz_sF29, rF_sF, rA_sF, rR_sF, tr_sF, rNMp_sF, PNp_sF, GS_F29, OP_F29, NR_F29, LI_F29, RG_l29, RG_r29, TPRp_sF29, WNp_sF29, VMp_sF29, KYp_sF29, PPp_sF29, WFp_sF29, CCp_sF29, rk_n0 hp_2, Ks39]); omega) | omega | (have zz_ := fz_z (by assumption); omega) | (split <;> omega) | (exact (show ORp _ _ from Or.inl (by omega))) | done)), ?_⟩
      intro v66 s66 hv66 Ws66 e66_0 e66_1 e66_2 e66_3 e66_4 e66_5 e66_6 e66_7 e66_8 q66
      unfold rng at hv66
      unfold post_X14_readNot at q66
      obtain ⟨q66_1, q66_2, q66_3, q66_4, q66_5, q66_6, q66_7, q66_8, q66_9⟩ := q66
      (try simp only [reduceIte, and_true, true_and, and_false, false_and, and_self, Nat.reduceEqDiff, fz_sF29, rF_sF, rA_sF, rR_sF, tr_sF, rNMp_sF, PNp_sF, GS_F29, OP_F29, NR_F29, LI_F29, RG_l29, RG_r29, TPRp_sF29, WNp_sF29, VMp_sF29, KYp_sF29, PPp_sF29, WFp_sF29, CCp_sF29, rk_n0 hp_2, Ks39, NBP, NBQ] at q66_1 q66_2 q66_3 q66_4 q66_5 q66_6 q66_7 q66_8 q66_9 e66_0 e66_1 e66_2 e66_3 e66_4 e66_5 e66_6 e66_7 e66_8)
      have Ks66 : rR s66 7 = rR σ 7 := by first | assumption | ((try simp only [rR_sF, rR_sA, rR_sT, rR_sL] at e66_0 e66_1 e66_2 e66_3 e66_4 e66_5 e66_6 e66_7 e66_8); omega)
      have zr66 := fz_rng s66
      have zc66 : fz s66 = 0 → fz s39 = 0 := fun hf => by omega
      have A66 : Im (fz s66 = 0) (RG σ s66 (rR σ 7) 0) := fun hf => RG.trk hp_2 (I39_13 (zc66 hf)) (q66_8 (by omega)) (Or.inr (Or.inl rfl))
      obtain ⟨g66, X66⟩ := q66_9
      have Ou18 : Im (fz s66 = 0) _ := fun hf => OP.gk0 (O39 (zc66 hf)) ((X66 hf).2.1)
      have Lu19 : Im (fz s66 = 0) _ := fun hf => LI.gk0 hp_2 (L39 (zc66 hf)) (O39 (zc66 hf)) (q66_8 (by omega)) ((X66 hf).2.1)
      have Ku20 : Im (fz s66 = 0) (GK g g66 (rF σ (rR σ 7) 7) (rF s66 (rR σ 7) 7) 0) := fun hf => GK.trans (KA39 (zc66 hf)) ((X66 hf).2.1) (Or.inr (Or.inl rfl))
      have Gu21 : Im (fz s66 = 0) (GS s66 (rR σ 7) g66) := fun hf => (X66 hf).1
      have r66 : Im (fz s66 = 0) _ := fun hf => (X66 hf).2.2.1
      have CCp_66 := e66_0 CCp_39; clear e66_0
      intro hr_; unfold rng at hr_
      refine ⟨fun c75 => ?_, fun c75 => ?_⟩
      · have z75 := fz_z c75
        refine ⟨(by (try simp only [Ks66]); (all_goals (repeat' (first | with_reducible intro _ | with_reducible apply And.intro | with_reducible refine Exists.intro g66 ?_ | with_reducible refine Im.and ?_ ?_))); all_goals (first | assumption | trivial | ((with_reducible refine Im.i fun hf_ => ?_); first | exact (A66 hf_) | exact (Gu21 hf_) | exact (Ku20 hf_) | exact (Ou18 hf_).cst | exact (Lu19 hf_) | exact (r66 hf_).cst | exact ((r66 hf_).so so_16_15).cst | exact ((r66 hf_).so so_16_14).cst | exact ok1.i | (exact LI.z (fun h => absurd h (by decide))) | (exact absurd hf_ (by omega)) | omega) | (unfold NBP; (try simp only [Ks66]); omega) | (unfold NBQ; (try simp only [Ks66]); omega) | omega | (have zz_ := fz_z (by assumption); omega) | (split <;> omega) | (exact (show ORp _ _ from Or.inl (by omega))) | done)), ?_⟩
        have A90 : Im (fz s66 = 0) (RG σ (sT s66 (rR σ 7) 5 y39_3 v66) (rR σ 7) 0) := fun hf => RG.tst (f := 5) (i := y39_3) (x := v66) hp_2 (A66 hf) (by decide) (by omega)
        obtain ⟨gs90, Xs90⟩ := EA_1_56 (P := fz s66 = 0) hp_2 Gu21 Ou18 Lu19 r66 (fun _ h => h) (fun hf => by omega)
        have Ku22 : Im (fz s66 = 0) (GK g gs90 (rF σ (rR σ 7) 7) (rF s66 (rR σ 7) 7) 0) := fun hf => GK.ks (Ku20 hf) (Xs90 hf).2.2.2.1 (by omega) (by omega)
        have Gu23 : Im (fz s66 = 0) _ := fun hf => (Xs90 hf).1
        have Ou24 : Im (fz s66 = 0) _ := fun hf => (Xs90 hf).2.1
        have Lu25 : Im (fz s66 = 0) _ := fun hf => (Xs90 hf).2.2.1
        refine ⟨(by (try simp only [pre_X14_blanks, reduceIte, and_true, true_and, and_false, false_and, and_self, Nat.reduceEqDiff, fz_sA, rF_sA, rA_sA, rR_sA, rF_sT, rR_sT, sT_sF, fz_sT, rA_sT26 hp_2, rA_sT27 hp_2, rA_sT34 hp_2, rA_sT35 hp_2, rA_sT36 hp_2, rA_sT37 hp_2, rA_sT40 hp_2, TPRp_sT hp_2, WNp_sT hp_2, VMp_sT hp_2, KYp_sT hp_2, PPp_sT hp_2, WFp_sT hp_2, CCp_sT hp_2, rNMp_sT5, PNp_sT5, rk_n0 hp_2, Ks66]); (all_goals (repeat' (first | with_reducible intro _ | with_reducible apply And.intro | with_reducible refine Exists.intro gs90 ?_ | with_reducible refine Im.and ?_ ?_))); all_goals (first | assumption | trivial | ((with_reducible refine Im.i fun hf_ => ?_); first | exact (A90 hf_) | exact (Gu23 hf_) | exact (Ku22 hf_) | exact (Ou24 hf_).cst | exact (Lu25 hf_) | exact ok1.i | (exact LI.z (fun h => absurd h (by decide))) | (exact absurd hf_ (by omega)) | omega) | (unfold NBP; (try simp only [reduceIte, and_true, true_and, and_false, false_and, and_self, Nat.reduceEqDiff, fz_sA, rF_sA, rA_sA, rR_sA, rF_sT, rR_sT, sT_sF, fz_sT, rA_sT26 hp_2, rA_sT27 hp_2, rA_sT34 hp_2, rA_sT35 hp_2, rA_sT36 hp_2, rA_sT37 hp_2, rA_sT40 hp_2, TPRp_sT hp_2, WNp_sT hp_2, VMp_sT hp_2, KYp_sT hp_2, PPp_sT hp_2, WFp_sT hp_2, CCp_sT hp_2, rNMp_sT5, PNp_sT5, rk_n0 hp_2, Ks66]); omega) | (unfold NBQ; (try simp only [reduceIte, and_true, true_and, and_false, false_and, and_self, Nat.reduceEqDiff, fz_sA, rF_sA, rA_sA, rR_sA, rF_sT, rR_sT, sT_sF, fz_sT, rA_sT26 hp_2, rA_sT27 hp_2, rA_sT34 hp_2, rA_sT35 hp_2, rA_sT36 hp_2, rA_sT37 hp_2, rA_sT40 hp_2, TPRp_sT hp_2, WNp_sT hp_2, VMp_sT hp_2, KYp_sT hp_2, PPp_sT hp_2, WFp_sT hp_2, CCp_sT hp_2, rNMp_sT5, PNp_sT5, rk_n0 hp_2, Ks66]); omega) | omega | (have zz_ := fz_z (by assumption); omega) | (split <;> omega) | (exact (show ORp _ _ from Or.inl (by omega))) | done)), ?_⟩
        intro s95 Ws95 e95_0 e95_1 e95_2 e95_3 e95_4 e95_5 e95_6 e95_7 e95_8 e95_9 e95_10 e95_11 e95_12 e95_13 e95_14 e95_15 e95_16 e95_17 e95_18 e95_19 e95_20 R95 q95
        have q95 := dig_blanks q95 (by (try simp only [reduceIte, and_true, true_and, and_false, false_and, and_self, Nat.reduceEqDiff, fz_sA, rF_sA, rA_sA, rR_sA, rF_sT, rR_sT, sT_sF, fz_sT, rA_sT26 hp_2, rA_sT27 hp_2, rA_sT34 hp_2, rA_sT35 hp_2, rA_sT36 hp_2, rA_sT37 hp_2, rA_sT40 hp_2, TPRp_sT hp_2, WNp_sT hp_2, VMp_sT hp_2, KYp_sT hp_2, PPp_sT hp_2, WFp_sT hp_2, CCp_sT hp_2, rNMp_sT5, PNp_sT5, rk_n0 hp_2, Ks66]); omega)
        obtain ⟨q95_1, q95_2⟩ := q95
        (try simp only [reduceIte, and_true, true_and, and_false, false_and, and_self, Nat.reduceEqDiff, fz_sA, rF_sA, rA_sA, rR_sA, rF_sT, rR_sT, sT_sF, fz_sT, rA_sT26 hp_2, rA_sT27 hp_2, rA_sT34 hp_2, rA_sT35 hp_2, rA_sT36 hp_2, rA_sT37 hp_2, rA_sT40 hp_2, TPRp_sT hp_2, WNp_sT hp_2, VMp_sT hp_2, KYp_sT hp_2, PPp_sT hp_2, WFp_sT hp_2, CCp_sT hp_2, rNMp_sT5, PNp_sT5, rk_n0 hp_2, Ks66, NBP, NBQ] at q95_1 q95_2 e95_0 e95_1 e95_2 e95_3 e95_4 e95_5 e95_6 e95_7 e95_8 e95_9 e95_10 e95_11 e95_12 e95_13 e95_14 e95_15 e95_16 e95_17 e95_18 e95_19 e95_20 R95)
        have Ks95 : rR s95 7 = rR σ 7 := by first | assumption | ((try simp only [rR_sF, rR_sA, rR_sT, rR_sL] at e95_0 e95_1 e95_2 e95_3 e95_4 e95_5 e95_6 e95_7 e95_8 e95_9 e95_10 e95_11 e95_12 e95_13 e95_14 e95_15 e95_16 e95_17 e95_18 e95_19 e95_20 R95); omega)
        have zr95 := fz_rng s95
        have zc95 : fz s95 = 0 → fz s66 = 0 := fun hf => by omega
        have A95 : Im (fz s95 = 0) (RG σ s95 (rR σ 7) 0) := fun hf => RG.trk hp_2 (A90 (zc95 hf)) R95 (Or.inr (Or.inl rfl))
        have Ou26 : Im (fz s95 = 0) _ := fun hf => OP.gk0 (Ou24 (zc95 hf)) (GK.up (g := gs90) (N := rF (sT s66 (rR σ 7) 5 y39_3 v66) (rR σ 7) 7) (N' := rF s95 (rR σ 7) 7) (c := 0) (by first | assumption | omega | (simp only [rF_sT, rF_sA]; omega)))
        have Lu27 : Im (fz s95 = 0) _ := fun hf => LI.gk0 hp_2 (Lu25 (zc95 hf)) (Ou24 (zc95 hf)) R95 (GK.up (g := gs90) (N := rF (sT s66 (rR σ 7) 5 y39_3 v66) (rR σ 7) 7) (N' := rF s95 (rR σ 7) 7) (c := 0) (by first | assumption | omega | (simp only [rF_sT, rF_sA]; omega)))
        have Ku28 : Im (fz s95 = 0) (GK g gs90 (rF σ (rR σ 7) 7) (rF s95 (rR σ 7) 7) 0) := fun hf => GK.trans (Ku22 (zc95 hf)) (GK.up (N := rF (sT s66 (rR σ 7) 5 y39_3 v66) (rR σ 7) 7) (N' := rF s95 (rR σ 7) 7) (c := 0) (by first | assumption | omega | (simp only [rF_sT, rF_sA]; omega))) (Or.inr (Or.inl rfl))
        have Gu29 : Im (fz s95 = 0) (GS s95 (rR σ 7) gs90) := fun hf => GS.mv hp_2 (Gu23 (zc95 hf)) R95 (by first | assumption | omega | (simp only [rF_sT, rF_sA]; omega)) (by first | (exact Int.le_of_eq (Eq.symm (by assumption))) | omega | (simp only [rF_sT, rF_sA]; omega))
        have rNMp_95 := e95_0 q66_2; clear e95_0
        have WNp_95 := e95_1 q66_3; clear e95_1
        have PNp_95 := e95_2 q66_4; clear e95_2
        have CCp_95 := e95_3 CCp_66; clear e95_3
        exact (by (try simp only [inv_X14_readBoth_39, mu_X14_readBoth_39, mu_X14_readBoth_39, Ks95]); (all_goals (repeat' (first | with_reducible intro _ | with_reducible apply And.intro | with_reducible refine Exists.intro gs90 ?_ | with_reducible refine Im.and ?_ ?_))); all_goals (first | assumption | trivial | ((with_reducible refine Im.i fun hf_ => ?_); first | exact (A95 hf_) | exact (Gu29 hf_) | exact (Ku28 hf_) | exact (Ou26 hf_).cst | exact (Lu27 hf_) | exact ok1.i | (exact LI.z (fun h => absurd h (by decide))) | (exact absurd hf_ (by omega)) | omega) | (unfold NBP; (try simp only [Ks95]); omega) | (unfold NBQ; (try simp only [Ks95]); omega) | omega | (have zz_ := fz_z (by assumption); omega) | (split <;> omega) | (exact (show ORp _ _ from Or.inl (by omega))) | done))
      · have z75 := fz_n c75
        exact (by (try simp only [post_X14_readBoth, Ks66]); (all_goals (repeat' (first | with_reducible intro _ | with_reducible apply And.intro | with_reducible refine Exists.intro g66 ?_ | with_reducible refine Im.and ?_ ?_))); all_goals (first | assumption | trivial | ((with_reducible refine Im.i fun hf_ => ?_); first | exact (A66 hf_) | exact (Gu21 hf_) | exact (Ku20 hf_) | exact (Ou18 hf_).cst | exact (Lu19 hf_) | exact (r66 hf_).cst | exact ((r66 hf_).so so_16_15).cst | exact ((r66 hf_).so so_16_14).cst | exact ok1.i | (exact LI.z (fun h => absurd h (by decide))) | (exact absurd hf_ (by omega)) | omega) | (unfold NBP; (try simp only [Ks66]); omega) | (unfold NBQ; (try simp only [Ks66]); omega) | omega | (have zz_ := fz_z (by assumption); omega) | (split <;> omega) | (exact (show ORp _ _ from Or.inl (by omega))) | done))
set_option maxHeartbeats 20000000 in
theorem vX14_readBoth_39m (n : Nat) (σ : rS) (gg : Nat) (g : Nat → Int → Int) (hwf : rWF σ) (hp : pre_X14_readBoth σ gg g) (hr : rk_X14_readBoth σ gg g ≤ n + 1) : VC_X14_readBoth_39m n σ gg g := by
  unfold pre_X14_readBoth at hp
  obtain ⟨hp_1, hp_2, hp_3, hp_4, hp_5, hp_6, hp_7, hp_8⟩ := hp
  subst hp_1
  unfold rk_X14_readBoth at hr
  have hN := hp_4
  unfold NBP at hN
  have hC := hp_3
  unfold CCp at hC
  obtain ⟨hC1, hC⟩ := hC
  have zr0 := fz_rng σ
  have hr2 : fz σ = 0 → 16 * (21 - rF σ 0 31).toNat + 10 ≤ n + 1 := fun h => by rw [if_pos h] at hr; exact hr
  have hr3 : 10 ≤ n + 1 := by have := hr; split at this <;> omega
  clear hr
  unfold VC_X14_readBoth_39m
  (try simp only [inv_X14_readBoth_39, mu_X14_readBoth_39]); (all_goals (repeat' (first | with_reducible intro _ | with_reducible apply And.intro))); all_goals (first | assumption | omega | grind (splits := 20))
