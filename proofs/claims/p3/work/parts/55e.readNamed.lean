def inv_X14_readNamed_30 (σ : rS) (x1 : Int) (gg : Nat) (g : Nat → Int → Int) (K : Nat)  (s : rS) (name : Int) (place : Int) (o : Int) : Prop := RG σ s gg 0 ∧ NBQ σ s gg 4 4 0 0 (rF σ 0 31) ∧ rNMp s ∧ WNp s ∧ PNp s ∧ 0 ≤ name ∧ name < 17000 ∧ 0 ≤ place ∧ place ≤ 4000 ∧ (o = 0 ∨ (0 < o ∧ o < (rF σ gg 7) ∧ g 3 o = x1 ∧ g 8 o = 2)) ∧ Im (fz s = 0) (RG σ s gg 0) ∧ ∃ h, Im (fz s = 0) (GS s gg h ∧ GK g h (rF σ gg 7) (rF s gg 7) 0 ∧ OP s gg h x1 K ((rF σ 0 31)) 0 ((rF σ 0 29)) ((rF σ 0 29)) 0 ∧ ok1)
def mu_X14_readNamed_30 (σ : rS) (x1 : Int) (gg : Nat) (g : Nat → Int → Int) (K : Nat) (s : rS) (name : Int) (place : Int) (o : Int) : Nat := (if o = 0 then 1 else 2 + ((rF σ gg 7) - o).toNat)
def VC_X14_readNamed (n : Nat) (σ : rS) (x1 : Int) (gg : Nat) (g : Nat → Int → Int) (K : Nat) (Q : Int → rS → Prop) : Prop := rgk (rR σ 7) ∧ pre_X14_tagName σ ∧ (∀ (v1 : Int) (s1 : rS), rng v1 → rWF s1 → (TPRp σ → TPRp s1) → (WNp σ → WNp s1) → (PNp σ → PNp s1) → (CCp σ → CCp s1) → rR s1 7 = rR σ 7 → rF s1 0 14 = rF σ 0 14 → rF s1 0 19 = rF σ 0 19 → rF s1 0 28 = rF σ 0 28 → rF s1 0 30 = rF σ 0 30 → rF s1 0 31 = rF σ 0 31 → rF s1 0 32 = rF σ 0 32 → rF s1 0 33 = rF σ 0 33 → rF s1 0 38 = rF σ 0 38 → rF s1 0 39 = rF σ 0 39 → rF s1 (rR σ 7) 7 = rF σ (rR σ 7) 7 → rF s1 (rR σ 7) 32 = rF σ (rR σ 7) 32 → rF s1 (rR σ 7) 38 = rF σ (rR σ 7) 38 → (∀ i, rA s1 (1000 * ((rR σ 7) + 1) + 33) i = rA σ (1000 * ((rR σ 7) + 1) + 33) i) → (∀ i, rA s1 (1000 * ((rR σ 7) + 1) + 34) i = rA σ (1000 * ((rR σ 7) + 1) + 34) i) → (∀ i, rA s1 (1000 * ((rR σ 7) + 1) + 35) i = rA σ (1000 * ((rR σ 7) + 1) + 35) i) → RG σ s1 (rR σ 7) 0 → post_X14_tagName σ v1 s1 → (rng (rF s1 0 10) → (((rF s1 0 10) = 0 → (rng (rF s1 0 41) → (0 ≤ x1 ∧ x1 < 50000) ∧ (rng (rA s1 (1000 * ((rR σ 7) + 1) + 2) x1) → (inv_X14_readNamed_30 σ x1 gg g K s1 v1 (rF s1 0 41) (rA s1 (1000 * ((rR σ 7) + 1) + 2) x1))))) ∧ (¬ (rF s1 0 10) = 0 → Q 0 s1))))
def VC_X14_readNamed_30 (n : Nat) (σ : rS) (x1 : Int) (gg : Nat) (g : Nat → Int → Int) (K : Nat) (Q : Int → rS → Prop) : Prop := ∀ (s30 : rS) (y30_2 : Int) (y30_3 : Int) (y30_4 : Int), rWF s30 → rng y30_2 → rng y30_3 → rng y30_4 → (TPRp σ → TPRp s30) → (CCp σ → CCp s30) → rR s30 7 = rR σ 7 → rF s30 0 14 = rF σ 0 14 → rF s30 0 19 = rF σ 0 19 → rF s30 0 28 = rF σ 0 28 → rF s30 0 30 = rF σ 0 30 → rF s30 0 32 = rF σ 0 32 → rF s30 0 33 = rF σ 0 33 → inv_X14_readNamed_30 σ x1 gg g K s30 y30_2 y30_3 y30_4 → (((y30_4 = 0 → pre_X14_need s30 61 ∧ (∀ (s73 : rS), rWF s73 → (rNMp s30 → rNMp s73) → (TPRp s30 → TPRp s73) → (WNp s30 → WNp s73) → (PNp s30 → PNp s73) → (CCp s30 → CCp s73) → rR s73 7 = rR s30 7 → rF s73 0 14 = rF s30 0 14 → rF s73 0 19 = rF s30 0 19 → rF s73 0 28 = rF s30 0 28 → rF s73 0 30 = rF s30 0 30 → rF s73 0 31 = rF s30 0 31 → rF s73 0 32 = rF s30 0 32 → rF s73 0 33 = rF s30 0 33 → rF s73 0 38 = rF s30 0 38 → rF s73 0 39 = rF s30 0 39 → rF s73 0 41 = rF s30 0 41 → rF s73 (rR σ 7) 7 = rF s30 (rR σ 7) 7 → rF s73 (rR σ 7) 9 = rF s30 (rR σ 7) 9 → rF s73 (rR σ 7) 12 = rF s30 (rR σ 7) 12 → rF s73 (rR σ 7) 32 = rF s30 (rR σ 7) 32 → rF s73 (rR σ 7) 38 = rF s30 (rR σ 7) 38 → (∀ i, rA s73 (1000 * ((rR σ 7) + 1) + 33) i = rA s30 (1000 * ((rR σ 7) + 1) + 33) i) → (∀ i, rA s73 (1000 * ((rR σ 7) + 1) + 34) i = rA s30 (1000 * ((rR σ 7) + 1) + 34) i) → (∀ i, rA s73 (1000 * ((rR σ 7) + 1) + 35) i = rA s30 (1000 * ((rR σ 7) + 1) + 35) i) → RG s30 s73 (rR σ 7) 0 → post_X14_need s30 61 s73 → (rng (rF s73 0 10) → (((rF s73 0 10) = 0 → pre_X14_node_t s73 51 0 y30_2 y30_3 gg ∧ (∀ (v91 : Int) (s91 : rS), rng v91 → rWF s91 → (rNMp s73 → rNMp s91) → (TPRp s73 → TPRp s91) → (WNp s73 → WNp s91) → (CCp s73 → CCp s91) → rR s91 7 = rR s73 7 → rF s91 0 10 = rF s73 0 10 → rF s91 0 14 = rF s73 0 14 → rF s91 0 19 = rF s73 0 19 → rF s91 0 28 = rF s73 0 28 → rF s91 0 29 = rF s73 0 29 → rF s91 0 30 = rF s73 0 30 → rF s91 0 31 = rF s73 0 31 → rF s91 0 32 = rF s73 0 32 → rF s91 0 33 = rF s73 0 33 → rF s91 0 38 = rF s73 0 38 → rF s91 0 39 = rF s73 0 39 → rF s91 0 41 = rF s73 0 41 → rF s91 (rR σ 7) 9 = rF s73 (rR σ 7) 9 → rF s91 (rR σ 7) 12 = rF s73 (rR σ 7) 12 → rF s91 (rR σ 7) 32 = rF s73 (rR σ 7) 32 → rF s91 (rR σ 7) 38 = rF s73 (rR σ 7) 38 → (∀ i, rA s91 (1000 * ((rR σ 7) + 1) + 33) i = rA s73 (1000 * ((rR σ 7) + 1) + 33) i) → (∀ i, rA s91 (1000 * ((rR σ 7) + 1) + 34) i = rA s73 (1000 * ((rR σ 7) + 1) + 34) i) → (∀ i, rA s91 (1000 * ((rR σ 7) + 1) + 35) i = rA s73 (1000 * ((rR σ 7) + 1) + 35) i) → fz s91 = fz s73 → post_X14_node_t s73 51 0 y30_2 y30_3 gg v91 s91 → pre_X14_check_t s91 51 v91 x1 y30_3 gg ∧ (∀ (s103 : rS), rWF s103 → (rNMp s91 → rNMp s103) → (TPRp s91 → TPRp s103) → (WNp s91 → WNp s103) → (PNp s91 → PNp s103) → (CCp s91 → CCp s103) → rR s103 7 = rR s91 7 → rF s103 0 10 = rF s91 0 10 → rF s103 0 14 = rF s91 0 14 → rF s103 0 19 = rF s91 0 19 → rF s103 0 28 = rF s91 0 28 → rF s103 0 29 = rF s91 0 29 → rF s103 0 30 = rF s91 0 30 → rF s103 0 31 = rF s91 0 31 → rF s103 0 32 = rF s91 0 32 → rF s103 0 33 = rF s91 0 33 → rF s103 0 38 = rF s91 0 38 → rF s103 0 39 = rF s91 0 39 → rF s103 0 41 = rF s91 0 41 → rF s103 (rR σ 7) 7 = rF s91 (rR σ 7) 7 → rF s103 (rR σ 7) 9 = rF s91 (rR σ 7) 9 → rF s103 (rR σ 7) 12 = rF s91 (rR σ 7) 12 → rF s103 (rR σ 7) 32 = rF s91 (rR σ 7) 32 → fz s103 = fz s91 → post_X14_check_t s91 51 v91 x1 y30_3 gg s103 → ∃ (g15 : Nat → Int → Int), pre_X14_readArg s103 gg g15 ∧ rk_X14_readArg s103 gg g15 ≤ n ∧ (∀ (v116 : Int) (s116 : rS), rng v116 → rWF s116 → (TPRp s103 → TPRp s116) → (CCp s103 → CCp s116) → rR s116 7 = rR s103 7 → rF s116 0 14 = rF s103 0 14 → rF s116 0 19 = rF s103 0 19 → rF s116 0 28 = rF s103 0 28 → rF s116 0 30 = rF s103 0 30 → rF s116 0 32 = rF s103 0 32 → rF s116 0 33 = rF s103 0 33 → post_X14_readArg s103 gg g15 v116 s116 → (0 ≤ v91 ∧ v91 < 50000) ∧ Q v91 (sT s116 (rR σ 7) 1 v91 v116))))) ∧ (¬ (rF s73 0 10) = 0 → Q 0 s73))))) ∧ (¬ y30_4 = 0 → (0 ≤ y30_4 ∧ y30_4 < 50000) ∧ (rng (rA s30 (1000 * ((rR σ 7) + 1) + 2) y30_4) → ((¬ (rA s30 (1000 * ((rR σ 7) + 1) + 2) y30_4) = y30_2 → (0 ≤ y30_4 ∧ y30_4 < 50000) ∧ (rng (rA s30 (1000 * ((rR σ 7) + 1) + 5) y30_4) → (inv_X14_readNamed_30 σ x1 gg g K s30 y30_2 y30_3 (rA s30 (1000 * ((rR σ 7) + 1) + 5) y30_4) ∧ (mu_X14_readNamed_30 σ x1 gg g K s30 y30_2 y30_3 (rA s30 (1000 * ((rR σ 7) + 1) + 5) y30_4)) < (mu_X14_readNamed_30 σ x1 gg g K s30 y30_2 y30_3 y30_4)))) ∧ ((rA s30 (1000 * ((rR σ 7) + 1) + 2) y30_4) = y30_2 → pre_X14_bad s30 3 y30_3 ∧ (∀ (s52 : rS), rWF s52 → (rNMp s30 → rNMp s52) → (TPRp s30 → TPRp s52) → (WNp s30 → WNp s52) → (PNp s30 → PNp s52) → (CCp s30 → CCp s52) → rR s52 7 = rR s30 7 → rF s52 0 14 = rF s30 0 14 → rF s52 0 19 = rF s30 0 19 → rF s52 0 28 = rF s30 0 28 → rF s52 0 29 = rF s30 0 29 → rF s52 0 30 = rF s30 0 30 → rF s52 0 31 = rF s30 0 31 → rF s52 0 32 = rF s30 0 32 → rF s52 0 33 = rF s30 0 33 → rF s52 0 38 = rF s30 0 38 → rF s52 0 39 = rF s30 0 39 → rF s52 0 41 = rF s30 0 41 → rF s52 (rR σ 7) 7 = rF s30 (rR σ 7) 7 → rF s52 (rR σ 7) 9 = rF s30 (rR σ 7) 9 → rF s52 (rR σ 7) 12 = rF s30 (rR σ 7) 12 → rF s52 (rR σ 7) 32 = rF s30 (rR σ 7) 32 → rF s52 (rR σ 7) 38 = rF s30 (rR σ 7) 38 → (∀ i, rA s52 (1000 * ((rR σ 7) + 1) + 33) i = rA s30 (1000 * ((rR σ 7) + 1) + 33) i) → (∀ i, rA s52 (1000 * ((rR σ 7) + 1) + 34) i = rA s30 (1000 * ((rR σ 7) + 1) + 34) i) → (∀ i, rA s52 (1000 * ((rR σ 7) + 1) + 35) i = rA s30 (1000 * ((rR σ 7) + 1) + 35) i) → RG s30 s52 (rR σ 7) 0 → post_X14_bad s30 3 y30_3 s52 → (0 ≤ y30_4 ∧ y30_4 < 50000) ∧ (rng (rA s52 (1000 * ((rR σ 7) + 1) + 5) y30_4) → (inv_X14_readNamed_30 σ x1 gg g K s52 y30_2 y30_3 (rA s52 (1000 * ((rR σ 7) + 1) + 5) y30_4) ∧ (mu_X14_readNamed_30 σ x1 gg g K s52 y30_2 y30_3 (rA s52 (1000 * ((rR σ 7) + 1) + 5) y30_4)) < (mu_X14_readNamed_30 σ x1 gg g K s30 y30_2 y30_3 y30_4))))))))))
def VC_X14_readNamed_30m (n : Nat) (σ : rS) (x1 : Int) (gg : Nat) (g : Nat → Int → Int) (K : Nat) : Prop := ∀ (s30 : rS) (y30_2 : Int) (y30_3 : Int) (y30_4 : Int), rWF s30 → rng y30_2 → rng y30_3 → rng y30_4 → (TPRp σ → TPRp s30) → (CCp σ → CCp s30) → rR s30 7 = rR σ 7 → rF s30 0 14 = rF σ 0 14 → rF s30 0 19 = rF σ 0 19 → rF s30 0 28 = rF σ 0 28 → rF s30 0 30 = rF σ 0 30 → rF s30 0 32 = rF σ 0 32 → rF s30 0 33 = rF σ 0 33 → inv_X14_readNamed_30 σ x1 gg g K s30 y30_2 y30_3 y30_4 → 0 < (mu_X14_readNamed_30 σ x1 gg g K s30 y30_2 y30_3 y30_4)
set_option maxHeartbeats 20000000 in
theorem vX14_readNamed (n : Nat) (σ : rS) (x1 : Int) (gg : Nat) (g : Nat → Int → Int) (K : Nat) (hwf : rWF σ) (hx1 : rng x1) (hp : pre_X14_readNamed σ x1 gg g K) (hr : rk_X14_readNamed σ x1 gg g K ≤ n + 1) : VC_X14_readNamed n σ x1 gg g K (post_X14_readNamed σ x1 gg g K) := by
  unfold pre_X14_readNamed at hp
  obtain ⟨hp_1, hp_2, hp_3, hp_4, hp_5, hp_6, hp_7, hp_8, hp_9, hp_10, hp_11, hp_12, hp_13⟩ := hp
  unfold rng at hx1
  subst hp_1
  unfold rk_X14_readNamed at hr
  have hN := hp_4
  unfold NBP at hN
  have hC := hp_3
  unfold CCp at hC
  obtain ⟨hC1, hC⟩ := hC
  have zr0 := fz_rng σ
  have hr2 : fz σ = 0 → 16 * (21 - rF σ 0 31).toNat + 2 ≤ n + 1 := fun h => by rw [if_pos h] at hr; exact hr
  have hr3 : 2 ≤ n + 1 := by have := hr; split at this <;> omega
  clear hr
  unfold VC_X14_readNamed
  refine ⟨(by (all_goals (repeat' (first | with_reducible intro _ | with_reducible apply And.intro))); all_goals (first | assumption | trivial | (unfold NBP; omega) | (unfold NBQ; omega) | omega | (have zz_ := fz_z (by assumption); omega) | (split <;> omega) | (exact RG.trk hp_2 I30_1 R52 (by omega)) | (exact R1) | ((repeat' split) <;> omega) | done)), ?_⟩
  refine ⟨(by (try simp only [pre_X14_tagName]); (all_goals (repeat' (first | with_reducible intro _ | with_reducible apply And.intro | with_reducible refine Exists.intro g ?_ | with_reducible refine Im.and ?_ ?_))); all_goals (first | assumption | trivial | ((with_reducible refine Im.i fun hf_ => ?_); first | exact ((fun _ => RG.rf) hf_) | exact (hp_8 hf_) | exact ((fun _ => GK.rf) hf_) | exact (hp_13 hf_).cst | exact ok1.i | (exact LI.z (fun h => absurd h (by decide))) | (exact absurd hf_ (by omega)) | omega) | (unfold NBP; omega) | (unfold NBQ; omega) | omega | (have zz_ := fz_z (by assumption); omega) | (split <;> omega) | (exact RG.trk hp_2 I30_1 R52 (by omega)) | (exact R1) | ((repeat' split) <;> omega) | done)), ?_⟩
  intro v1 s1 hv1 Ws1 e1_0 e1_1 e1_2 e1_3 e1_4 e1_5 e1_6 e1_7 e1_8 e1_9 e1_10 e1_11 e1_12 e1_13 e1_14 e1_15 e1_16 e1_17 e1_18 e1_19 R1 q1
  unfold rng at hv1
  have q1 := dig_tagName q1 (by omega) (by omega) (by omega)
  obtain ⟨q1_1, q1_2, q1_3, q1_4, q1_5, q1_6, q1_7, q1_8, q1_9, q1_10, q1_11, q1_12⟩ := q1
  (try simp only [NBP, NBQ] at q1_1 q1_2 q1_3 q1_4 q1_5 q1_6 q1_7 q1_8 q1_9 q1_10 q1_11 q1_12 e1_0 e1_1 e1_2 e1_3 e1_4 e1_5 e1_6 e1_7 e1_8 e1_9 e1_10 e1_11 e1_12 e1_13 e1_14 e1_15 e1_16 e1_17 e1_18 e1_19 R1)
  have Ks1 : rR s1 7 = rR σ 7 := by first | assumption | ((try simp only [rR_sF, rR_sA, rR_sT, rR_sL] at e1_0 e1_1 e1_2 e1_3 e1_4 e1_5 e1_6 e1_7 e1_8 e1_9 e1_10 e1_11 e1_12 e1_13 e1_14 e1_15 e1_16 e1_17 e1_18 e1_19 R1); omega)
  have zr1 := fz_rng s1
  have zc1 : fz s1 = 0 → fz σ = 0 := fun hf => by omega
  have A1 : Im (fz s1 = 0) (RG σ s1 (rR σ 7) 0) := fun hf => RG.trk hp_2 ((fun _ => RG.rf) (zc1 hf)) R1 (Or.inr (Or.inl rfl))
  have OCu1 : Im (fz s1 = 0) _ := fun hf => OP.gk0 (hp_13 (zc1 hf)) (GK.up (g := g) (N := rF σ (rR σ 7) 7) (N' := rF s1 (rR σ 7) 7) (c := 0) (by first | assumption | omega | (simp only [rF_sT, rF_sA]; omega)))
  have Ku2 : Im (fz s1 = 0) (GK g g (rF σ (rR σ 7) 7) (rF s1 (rR σ 7) 7) 0) := fun hf => GK.trans ((fun _ => GK.rf) (zc1 hf)) (GK.up (N := rF σ (rR σ 7) 7) (N' := rF s1 (rR σ 7) 7) (c := 0) (by first | assumption | omega | (simp only [rF_sT, rF_sA]; omega))) (Or.inr (Or.inl rfl))
  have Gu3 : Im (fz s1 = 0) (GS s1 (rR σ 7) g) := fun hf => GS.mv hp_2 (hp_8 (zc1 hf)) R1 (by first | assumption | omega | (simp only [rF_sT, rF_sA]; omega)) (by first | (exact Int.le_of_eq (Eq.symm (by assumption))) | omega | (simp only [rF_sT, rF_sA]; omega))
  have TPRp_1 := e1_0 hC1; clear e1_0
  have WNp_1 := e1_1 hp_6; clear e1_1
  have PNp_1 := e1_2 hp_7; clear e1_2
  have CCp_1 := e1_3 hp_3; clear e1_3
  intro hr_; unfold rng at hr_
  refine ⟨fun c9 => ?_, fun c9 => ?_⟩
  · have z9 := fz_z c9
    intro hr_; unfold rng at hr_
    refine ⟨(by (try simp only [Ks1]); (all_goals (repeat' (first | with_reducible intro _ | with_reducible apply And.intro | with_reducible refine Exists.intro g ?_ | with_reducible refine Im.and ?_ ?_))); all_goals (first | assumption | trivial | ((with_reducible refine Im.i fun hf_ => ?_); first | exact (A1 hf_) | exact (Gu3 hf_) | exact (Ku2 hf_) | exact (OCu1 hf_).cst | exact ok1.i | (exact LI.z (fun h => absurd h (by decide))) | (exact absurd hf_ (by omega)) | omega) | (unfold NBP; (try simp only [Ks1]); omega) | (unfold NBQ; (try simp only [Ks1]); omega) | omega | (have zz_ := fz_z (by assumption); omega) | (split <;> omega) | (exact RG.trk hp_2 I30_1 R52 (by omega)) | (exact R1) | ((repeat' split) <;> omega) | done)), ?_⟩
    intro hr_; unfold rng at hr_
    have n_ : rA s1 (1000 * ((rR σ 7) + 1) + 2) x1 = tr σ (rR σ 7) 2 x1 := (tr_rd hp_2 (Or.inl (by decide))).trans (RG.fA hp_2 R1)
    have L_ := GS.fst (f := 2) (K := K) (hp_8 (by omega)) (by omega) (by omega) (hp_13 (by omega)).2.2.1 (by rcases hp_12 with rfl | rfl | rfl | rfl <;> decide) (by omega)
    rw [← n_] at L_
    simp only [Int.ofNat_two] at L_
    exact (by (try simp only [inv_X14_readNamed_30, Ks1]); (all_goals (repeat' (first | with_reducible intro _ | with_reducible apply And.intro | with_reducible refine Exists.intro g ?_ | with_reducible refine Im.and ?_ ?_))); all_goals (first | assumption | trivial | ((with_reducible refine Im.i fun hf_ => ?_); first | exact (A1 hf_) | exact (Gu3 hf_) | exact (Ku2 hf_) | exact (OCu1 hf_).cst | exact ok1.i | (exact LI.z (fun h => absurd h (by decide))) | (exact absurd hf_ (by omega)) | omega) | (unfold NBP; (try simp only [Ks1]); omega) | (unfold NBQ; (try simp only [Ks1]); omega) | omega | (have zz_ := fz_z (by assumption); omega) | (split <;> omega) | (exact RG.trk hp_2 I30_1 R52 (by omega)) | (exact R1) | ((repeat' split) <;> omega) | done))
  · have z9 := fz_n c9
    exact (by (try simp only [post_X14_readNamed, Ks1]); (all_goals (repeat' (first | with_reducible intro _ | with_reducible apply And.intro | with_reducible refine Exists.intro g ?_ | with_reducible refine Im.and ?_ ?_))); all_goals (first | assumption | trivial | ((with_reducible refine Im.i fun hf_ => ?_); first | exact (A1 hf_) | exact (Gu3 hf_) | exact (Ku2 hf_) | exact (OCu1 hf_).cst | exact ok1.i | (exact LI.z (fun h => absurd h (by decide))) | (exact absurd hf_ (by omega)) | omega) | (unfold NBP; (try simp only [Ks1]); omega) | (unfold NBQ; (try simp only [Ks1]); omega) | omega | (have zz_ := fz_z (by assumption); omega) | (split <;> omega) | (exact RG.trk hp_2 I30_1 R52 (by omega)) | (exact R1) | ((repeat' split) <;> omega) | done))
set_option maxHeartbeats 20000000 in
theorem vX14_readNamed_30 (n : Nat) (σ : rS) (x1 : Int) (gg : Nat) (g : Nat → Int → Int) (K : Nat) (hwf : rWF σ) (hx1 : rng x1) (hp : pre_X14_readNamed σ x1 gg g K) (hr : rk_X14_readNamed σ x1 gg g K ≤ n + 1) : VC_X14_readNamed_30 n σ x1 gg g K (post_X14_readNamed σ x1 gg g K) := by
  unfold pre_X14_readNamed at hp
  obtain ⟨hp_1, hp_2, hp_3, hp_4, hp_5, hp_6, hp_7, hp_8, hp_9, hp_10, hp_11, hp_12, hp_13⟩ := hp
  unfold rng at hx1
  subst hp_1
  unfold rk_X14_readNamed at hr
  have hN := hp_4
  unfold NBP at hN
  have hC := hp_3
  unfold CCp at hC
  obtain ⟨hC1, hC⟩ := hC
  have zr0 := fz_rng σ
  have hr2 : fz σ = 0 → 16 * (21 - rF σ 0 31).toNat + 2 ≤ n + 1 := fun h => by rw [if_pos h] at hr; exact hr
  have hr3 : 2 ≤ n + 1 := by have := hr; split at this <;> omega
  clear hr
  unfold VC_X14_readNamed_30
  intro s30 y30_2 y30_3 y30_4 Ws30 hy30_2 hy30_3 hy30_4 e30_0 e30_1 e30_2 e30_3 e30_4 e30_5 e30_6 e30_7 e30_8 I30
  have Ks30 : rR s30 7 = rR σ 7 := by omega
  unfold inv_X14_readNamed_30 at I30
  obtain ⟨I30_1, I30_2, I30_3, I30_4, I30_5, I30_6, I30_7, I30_8, I30_9, I30_10, I30_11, I30_12⟩ := I30
  (try simp only [Ks30, NBP, NBQ] at I30_1 I30_2 I30_3 I30_4 I30_5 I30_6 I30_7 I30_8 I30_9 I30_10 I30_11 I30_12)
  have zr30 := fz_rng s30
  have TPRp_30 := e30_0 hC1; clear e30_0
  have CCp_30 := e30_1 hp_3; clear e30_1
  obtain ⟨g30, X30⟩ := I30_12
  have G30 : Im (fz s30 = 0) _ := fun hf => (X30 hf).1
  have KA30 : Im (fz s30 = 0) _ := fun hf => (X30 hf).2.1
  have OC30 : Im (fz s30 = 0) _ := fun hf => (X30 hf).2.2.1
  refine ⟨fun c32 => ?_, fun c32 => ?_⟩
  · refine ⟨(by (try simp only [pre_X14_need, Ks30]); (all_goals (repeat' (first | with_reducible intro _ | with_reducible apply And.intro | with_reducible refine Exists.intro g30 ?_ | with_reducible refine Im.and ?_ ?_))); all_goals (first | assumption | trivial | ((with_reducible refine Im.i fun hf_ => ?_); first | exact (I30_11 hf_) | exact (G30 hf_) | exact (KA30 hf_) | exact (OC30 hf_).cst | exact ok1.i | (exact LI.z (fun h => absurd h (by decide))) | (exact absurd hf_ (by omega)) | omega) | (unfold NBP; (try simp only [Ks30]); omega) | (unfold NBQ; (try simp only [Ks30]); omega) | omega | (have zz_ := fz_z (by assumption); omega) | (split <;> omega) | (exact RG.trk hp_2 I30_1 R52 (by omega)) | (exact R1) | ((repeat' split) <;> omega) | done)), ?_⟩
    intro s73 Ws73 e73_0 e73_1 e73_2 e73_3 e73_4 e73_5 e73_6 e73_7 e73_8 e73_9 e73_10 e73_11 e73_12 e73_13 e73_14 e73_15 e73_16 e73_17 e73_18 e73_19 e73_20 e73_21 e73_22 e73_23 R73 q73
    have q73 := dig_need q73 (by (try simp only [Ks30]); omega)
    obtain ⟨q73_1, q73_2, q73_3, q73_4⟩ := q73
    (try simp only [Ks30, NBP, NBQ] at q73_1 q73_2 q73_3 q73_4 e73_0 e73_1 e73_2 e73_3 e73_4 e73_5 e73_6 e73_7 e73_8 e73_9 e73_10 e73_11 e73_12 e73_13 e73_14 e73_15 e73_16 e73_17 e73_18 e73_19 e73_20 e73_21 e73_22 e73_23 R73)
    have Ks73 : rR s73 7 = rR σ 7 := by first | assumption | ((try simp only [rR_sF, rR_sA, rR_sT, rR_sL] at e73_0 e73_1 e73_2 e73_3 e73_4 e73_5 e73_6 e73_7 e73_8 e73_9 e73_10 e73_11 e73_12 e73_13 e73_14 e73_15 e73_16 e73_17 e73_18 e73_19 e73_20 e73_21 e73_22 e73_23 R73); omega)
    have zr73 := fz_rng s73
    have zc73 : fz s73 = 0 → fz s30 = 0 := fun hf => by omega
    have A73 : Im (fz s73 = 0) (RG σ s73 (rR σ 7) 0) := fun hf => RG.trk hp_2 (I30_11 (zc73 hf)) R73 (Or.inr (Or.inl rfl))
    have OCu4 : Im (fz s73 = 0) _ := fun hf => OP.gk0 (OC30 (zc73 hf)) (GK.up (g := g30) (N := rF s30 (rR σ 7) 7) (N' := rF s73 (rR σ 7) 7) (c := 0) (by first | assumption | omega | (simp only [rF_sT, rF_sA]; omega)))
    have Ku5 : Im (fz s73 = 0) (GK g g30 (rF σ (rR σ 7) 7) (rF s73 (rR σ 7) 7) 0) := fun hf => GK.trans (KA30 (zc73 hf)) (GK.up (N := rF s30 (rR σ 7) 7) (N' := rF s73 (rR σ 7) 7) (c := 0) (by first | assumption | omega | (simp only [rF_sT, rF_sA]; omega))) (Or.inr (Or.inl rfl))
    have Gu6 : Im (fz s73 = 0) (GS s73 (rR σ 7) g30) := fun hf => GS.mv hp_2 (G30 (zc73 hf)) R73 (by first | assumption | omega | (simp only [rF_sT, rF_sA]; omega)) (by first | (exact Int.le_of_eq (Eq.symm (by assumption))) | omega | (simp only [rF_sT, rF_sA]; omega))
    have rNMp_73 := e73_0 I30_3; clear e73_0
    have TPRp_73 := e73_1 TPRp_30; clear e73_1
    have WNp_73 := e73_2 I30_4; clear e73_2
    have PNp_73 := e73_3 I30_5; clear e73_3
    have CCp_73 := e73_4 CCp_30; clear e73_4
    intro hr_; unfold rng at hr_
    refine ⟨fun c80 => ?_, fun c80 => ?_⟩
    · have z80 := fz_z c80
      refine ⟨(by (try simp only [pre_X14_node_t, Ks73]); (all_goals (repeat' (first | with_reducible intro _ | with_reducible apply And.intro | with_reducible refine Exists.intro g30 ?_ | with_reducible refine Im.and ?_ ?_))); all_goals (first | assumption | trivial | ((with_reducible refine Im.i fun hf_ => ?_); first | exact (A73 hf_) | exact (Gu6 hf_) | exact (Ku5 hf_) | exact (OCu4 hf_).cst | exact ok1.i | (exact LI.z (fun h => absurd h (by decide))) | (exact absurd hf_ (by omega)) | omega) | (unfold NBP; (try simp only [Ks73]); omega) | (unfold NBQ; (try simp only [Ks73]); omega) | omega | (have zz_ := fz_z (by assumption); omega) | (split <;> omega) | (exact RG.trk hp_2 I30_1 R52 (by omega)) | (exact R1) | ((repeat' split) <;> omega) | done)), ?_⟩
      intro v91 s91 hv91 Ws91 e91_0 e91_1 e91_2 e91_3 e91_4 e91_5 e91_6 e91_7 e91_8 e91_9 e91_10 e91_11 e91_12 e91_13 e91_14 e91_15 e91_16 e91_17 e91_18 e91_19 e91_20 e91_21 e91_22 e91_23 e91_24 q91
      unfold rng at hv91
      unfold post_X14_node_t at q91
      obtain ⟨q91_1, q91_2, q91_3, q91_4, q91_5, q91_6, q91_7, q91_8, q91_9, q91_10⟩ := q91
      (try simp only [Ks73, NBP, NBQ] at q91_1 q91_2 q91_3 q91_4 q91_5 q91_6 q91_7 q91_8 q91_9 q91_10 e91_0 e91_1 e91_2 e91_3 e91_4 e91_5 e91_6 e91_7 e91_8 e91_9 e91_10 e91_11 e91_12 e91_13 e91_14 e91_15 e91_16 e91_17 e91_18 e91_19 e91_20 e91_21 e91_22 e91_23 e91_24)
      have Ks91 : rR s91 7 = rR σ 7 := by first | assumption | ((try simp only [rR_sF, rR_sA, rR_sT, rR_sL] at e91_0 e91_1 e91_2 e91_3 e91_4 e91_5 e91_6 e91_7 e91_8 e91_9 e91_10 e91_11 e91_12 e91_13 e91_14 e91_15 e91_16 e91_17 e91_18 e91_19 e91_20 e91_21 e91_22 e91_23 e91_24); omega)
      have zr91 := fz_rng s91
      have zc91 : fz s91 = 0 → fz s73 = 0 := fun hf => by omega
      have A91 : Im (fz s91 = 0) (RG σ s91 (rR σ 7) 0) := fun hf => RG.trk hp_2 (A73 (zc91 hf)) q91_3 (Or.inr (Or.inl rfl))
      obtain ⟨g91, X91⟩ := EN_51 (P := fz s91 = 0) (rF s73 0 29) (rF s30 0 31) hp_2 (fun hf => Gu6 (zc91 hf)) (fun hf => q91_3) q91_1 q91_2 q91_4 q91_5 q91_6 q91_9 (fun hf => by (try simp only [rF_sT, rF_sA]); (repeat' (with_reducible apply And.intro)) <;> first | trivial | omega)
      have OCu7 : Im (fz s91 = 0) _ := fun hf => OP.gk0 (OCu4 (zc91 hf)) (X91 hf).2.1
      have Ku8 : Im (fz s91 = 0) (GK g g91 (rF σ (rR σ 7) 7) (rF s91 (rR σ 7) 7) 0) := fun hf => GK.gs (Ku5 (zc91 hf)) (X91 hf).2.1
      have Gu9 : Im (fz s91 = 0) _ := fun hf => (X91 hf).1
      have O91 : Im (fz s91 = 0) _ := fun hf => (X91 hf).2.2.1
      have rNMp_91 := e91_0 rNMp_73; clear e91_0
      have TPRp_91 := e91_1 TPRp_73; clear e91_1
      have WNp_91 := e91_2 WNp_73; clear e91_2
      have CCp_91 := e91_3 CCp_73; clear e91_3
      refine ⟨(by (try simp only [pre_X14_check_t, Ks91]); (all_goals (repeat' (first | with_reducible intro _ | with_reducible apply And.intro | with_reducible refine Exists.intro g91 ?_ | with_reducible refine Im.and ?_ ?_))); all_goals (first | assumption | trivial | ((with_reducible refine Im.i fun hf_ => ?_); first | exact (A91 hf_) | exact (Gu9 hf_) | exact (Ku8 hf_) | exact (OCu7 hf_).cst | exact (O91 hf_).cst | exact ok1.i | (exact LI.z (fun h => absurd h (by decide))) | (exact absurd hf_ (by omega)) | omega) | (unfold NBP; (try simp only [Ks91]); omega) | (unfold NBQ; (try simp only [Ks91]); omega) | omega | (have zz_ := fz_z (by assumption); omega) | (split <;> omega) | (exact RG.trk hp_2 I30_1 R52 (by omega)) | (exact R1) | ((repeat' split) <;> omega) | done)), ?_⟩
      intro s103 Ws103 e103_0 e103_1 e103_2 e103_3 e103_4 e103_5 e103_6 e103_7 e103_8 e103_9 e103_10 e103_11 e103_12 e103_13 e103_14 e103_15 e103_16 e103_17 e103_18 e103_19 e103_20 e103_21 e103_22 q103
      unfold post_X14_check_t at q103
      obtain ⟨q103_1, q103_2, q103_3, q103_4, q103_5, q103_6⟩ := q103
      (try simp only [Ks91, NBP, NBQ] at q103_1 q103_2 q103_3 q103_4 q103_5 q103_6 e103_0 e103_1 e103_2 e103_3 e103_4 e103_5 e103_6 e103_7 e103_8 e103_9 e103_10 e103_11 e103_12 e103_13 e103_14 e103_15 e103_16 e103_17 e103_18 e103_19 e103_20 e103_21 e103_22)
      have Ks103 : rR s103 7 = rR σ 7 := by first | assumption | ((try simp only [rR_sF, rR_sA, rR_sT, rR_sL] at e103_0 e103_1 e103_2 e103_3 e103_4 e103_5 e103_6 e103_7 e103_8 e103_9 e103_10 e103_11 e103_12 e103_13 e103_14 e103_15 e103_16 e103_17 e103_18 e103_19 e103_20 e103_21 e103_22); omega)
      have zr103 := fz_rng s103
      have zc103 : fz s103 = 0 → fz s91 = 0 := fun hf => by omega
      have A103 : Im (fz s103 = 0) (RG σ s103 (rR σ 7) 0) := fun hf => RG.trk hp_2 (A91 (zc103 hf)) q103_2 (Or.inr (Or.inl rfl))
      have OCu10 : Im (fz s103 = 0) _ := fun hf => OP.gk0 (OCu7 (zc103 hf)) (GK.up (g := g91) (N := rF s91 (rR σ 7) 7) (N' := rF s103 (rR σ 7) 7) (c := 0) (by first | assumption | omega | (simp only [rF_sT, rF_sA]; omega)))
      have O91u11 : Im (fz s103 = 0) _ := fun hf => OP.gk0 (O91 (zc103 hf)) (GK.up (g := g91) (N := rF s91 (rR σ 7) 7) (N' := rF s103 (rR σ 7) 7) (c := 0) (by first | assumption | omega | (simp only [rF_sT, rF_sA]; omega)))
      have Ku12 : Im (fz s103 = 0) (GK g g91 (rF σ (rR σ 7) 7) (rF s103 (rR σ 7) 7) 0) := fun hf => GK.trans (Ku8 (zc103 hf)) (GK.up (N := rF s91 (rR σ 7) 7) (N' := rF s103 (rR σ 7) 7) (c := 0) (by first | assumption | omega | (simp only [rF_sT, rF_sA]; omega))) (Or.inr (Or.inl rfl))
      have Gu13 : Im (fz s103 = 0) (GS s103 (rR σ 7) g91) := fun hf => GS.chk hp_2 (Gu9 (zc103 hf)) q103_2 (by first | assumption | omega | (simp only [rF_sT, rF_sA]; omega)) (by first | (exact Int.le_of_eq (Eq.symm (by assumption))) | omega | (simp only [rF_sT, rF_sA]; omega)) (by first | omega | (simp only [rF_sT, rF_sA]; omega)) (by first | exact q103_3 | (simp only [rF_sT, rF_sA]; exact q103_3)) (by first | exact q103_4 | (simp only [rF_sT, rF_sA]; exact q103_4)) (by first | exact q103_5 | (simp only [rF_sT, rF_sA]; exact q103_5)) (ckOK.n (by first | omega | (simp only [rF_sT, rF_sA]; omega)))
      have rNMp_103 := e103_0 rNMp_91; clear e103_0
      have TPRp_103 := e103_1 TPRp_91; clear e103_1
      have WNp_103 := e103_2 WNp_91; clear e103_2
      have PNp_103 := e103_3 q91_10; clear e103_3
      have CCp_103 := e103_4 CCp_91; clear e103_4
      refine ⟨g91, ?_⟩
      refine ⟨(by (try simp only [pre_X14_readArg, Ks103]); (all_goals (repeat' (first | with_reducible intro _ | with_reducible apply And.intro | with_reducible refine Exists.intro g91 ?_ | with_reducible refine Im.and ?_ ?_))); all_goals (first | assumption | trivial | ((with_reducible refine Im.i fun hf_ => ?_); first | exact (A103 hf_) | exact (Gu13 hf_) | exact (Ku12 hf_) | exact (OCu10 hf_).cst | exact (O91u11 hf_).cst | exact ok1.i | (exact LI.z (fun h => absurd h (by decide))) | (exact absurd hf_ (by omega)) | omega) | (unfold NBP; (try simp only [Ks103]); omega) | (unfold NBQ; (try simp only [Ks103]); omega) | omega | (have zz_ := fz_z (by assumption); omega) | (split <;> omega) | (exact RG.trk hp_2 I30_1 R52 (by omega)) | (exact R1) | ((repeat' split) <;> omega) | done)), ?_⟩
      refine ⟨(by (try simp only [rk_X14_readArg, Ks103]); (all_goals (repeat' (first | with_reducible intro _ | with_reducible apply And.intro | with_reducible refine Exists.intro g91 ?_ | with_reducible refine Im.and ?_ ?_))); all_goals (first | assumption | trivial | ((with_reducible refine Im.i fun hf_ => ?_); first | exact (A103 hf_) | exact (Gu13 hf_) | exact (Ku12 hf_) | exact (OCu10 hf_).cst | exact (O91u11 hf_).cst | exact ok1.i | (exact LI.z (fun h => absurd h (by decide))) | (exact absurd hf_ (by omega)) | omega) | (unfold NBP; (try simp only [Ks103]); omega) | (unfold NBQ; (try simp only [Ks103]); omega) | omega | (have zz_ := fz_z (by assumption); omega) | (split <;> omega) | (exact RG.trk hp_2 I30_1 R52 (by omega)) | (exact R1) | ((repeat' split) <;> omega) | done)), ?_⟩
      intro v116 s116 hv116 Ws116 e116_0 e116_1 e116_2 e116_3 e116_4 e116_5 e116_6 e116_7 e116_8 q116
      unfold rng at hv116
      unfold post_X14_readArg at q116
      obtain ⟨q116_1, q116_2, q116_3, q116_4, q116_5, q116_6, q116_7, q116_8, q116_9⟩ := q116
      (try simp only [Ks103, NBP, NBQ] at q116_1 q116_2 q116_3 q116_4 q116_5 q116_6 q116_7 q116_8 q116_9 e116_0 e116_1 e116_2 e116_3 e116_4 e116_5 e116_6 e116_7 e116_8)
      have Ks116 : rR s116 7 = rR σ 7 := by first | assumption | ((try simp only [rR_sF, rR_sA, rR_sT, rR_sL] at e116_0 e116_1 e116_2 e116_3 e116_4 e116_5 e116_6 e116_7 e116_8); omega)
      have zr116 := fz_rng s116
      have zc116 : fz s116 = 0 → fz s103 = 0 := fun hf => by omega
      have A116 : Im (fz s116 = 0) (RG σ s116 (rR σ 7) 0) := fun hf => RG.trk hp_2 (A103 (zc116 hf)) (q116_8 (by omega)) (Or.inr (Or.inl rfl))
      obtain ⟨g116, X116⟩ := q116_9
      have OCu14 : Im (fz s116 = 0) _ := fun hf => OP.gk0 (OCu10 (zc116 hf)) ((X116 hf).2.1)
      have O91u15 : Im (fz s116 = 0) _ := fun hf => OP.gk0 (O91u11 (zc116 hf)) ((X116 hf).2.1)
      have Ku16 : Im (fz s116 = 0) (GK g g116 (rF σ (rR σ 7) 7) (rF s116 (rR σ 7) 7) 0) := fun hf => GK.trans (Ku12 (zc116 hf)) ((X116 hf).2.1) (Or.inr (Or.inl rfl))
      have Gu17 : Im (fz s116 = 0) (GS s116 (rR σ 7) g116) := fun hf => (X116 hf).1
      have r116 : Im (fz s116 = 0) _ := fun hf => (X116 hf).2.2.1
      have TPRp_116 := e116_0 TPRp_103; clear e116_0
      have CCp_116 := e116_1 CCp_103; clear e116_1
      refine ⟨(by (try simp only [Ks116]); (all_goals (repeat' (first | with_reducible intro _ | with_reducible apply And.intro | with_reducible refine Exists.intro g116 ?_ | with_reducible refine Im.and ?_ ?_))); all_goals (first | assumption | trivial | ((with_reducible refine Im.i fun hf_ => ?_); first | exact (A116 hf_) | exact (Gu17 hf_) | exact (Ku16 hf_) | exact (OCu14 hf_).cst | exact (O91u15 hf_).cst | exact (r116 hf_).cst | exact ok1.i | (exact LI.z (fun h => absurd h (by decide))) | (exact absurd hf_ (by omega)) | omega) | (unfold NBP; (try simp only [Ks116]); omega) | (unfold NBQ; (try simp only [Ks116]); omega) | omega | (have zz_ := fz_z (by assumption); omega) | (split <;> omega) | (exact RG.trk hp_2 I30_1 R52 (by omega)) | (exact R1) | ((repeat' split) <;> omega) | done)), ?_⟩
      have A119 : Im (fz s116 = 0) (RG σ (sT s116 (rR σ 7) 1 v91 v116) (rR σ 7) 0) := fun hf => RG.tst (f := 1) (i := v91) (x := v116) hp_2 (A116 hf) (by decide) (by omega)
      obtain ⟨gs119, Xs119⟩ := EH_1_51 (P := fz s116 = 0) hp_2 Gu17 O91u15 r116 (fun _ h => h) (fun hf => by omega)
      have OCu18 : Im (fz s116 = 0) _ := fun hf => OP.ks (ff := 1) (i := v91) (z := v116) (OCu14 hf) (Xs119 hf).2.2.2.1 (by omega) (Xs119 hf).2.2.2.2.2.2
      have Ku19 : Im (fz s116 = 0) (GK g gs119 (rF σ (rR σ 7) 7) (rF s116 (rR σ 7) 7) 0) := fun hf => GK.ks (Ku16 hf) (Xs119 hf).2.2.2.1 (by omega) (by omega)
      have Gu20 : Im (fz s116 = 0) _ := fun hf => (Xs119 hf).1
      have O91u21 : Im (fz s116 = 0) _ := fun hf => (Xs119 hf).2.1
      have L119u22 : Im (fz s116 = 0) _ := fun hf => (Xs119 hf).2.2.1
      obtain ⟨gu23, Xu24⟩ := EC_51 (P := fz s116 = 0) (rF s116 0 29) Gu20 O91u21 (fun hf => by omega)
      have OCu25 : Im (fz s116 = 0) _ := fun hf => OP.kc (OCu18 hf) (Xu24 hf).2.2 (by omega)
      have O91u26 : Im (fz s116 = 0) _ := fun hf => (Xu24 hf).2.1
      have Ku27 : Im (fz s116 = 0) (GK g gu23 (rF σ (rR σ 7) 7) (rF s116 (rR σ 7) 7) 0) := fun hf => GK.kc (Ku19 hf) (Xu24 hf).2.2 (by omega)
      have Gu28 : Im (fz s116 = 0) _ := fun hf => (Xu24 hf).1
      exact (by (try simp only [post_X14_readNamed, reduceIte, and_true, true_and, and_false, false_and, and_self, Nat.reduceEqDiff, fz_sA, rF_sA, rA_sA, rR_sA, rF_sT, rR_sT, sT_sF, fz_sT, rA_sT26 hp_2, rA_sT27 hp_2, rA_sT34 hp_2, rA_sT35 hp_2, rA_sT36 hp_2, rA_sT37 hp_2, rA_sT40 hp_2, TPRp_sT hp_2, WNp_sT hp_2, VMp_sT hp_2, KYp_sT hp_2, PPp_sT hp_2, WFp_sT hp_2, CCp_sT hp_2, rNMp_sT1, PNp_sT1, rk_n0 hp_2, Ks116]); (all_goals (repeat' (first | with_reducible intro _ | with_reducible apply And.intro | with_reducible refine Exists.intro gu23 ?_ | with_reducible refine Im.and ?_ ?_))); all_goals (first | assumption | trivial | ((with_reducible refine Im.i fun hf_ => ?_); first | exact (A119 hf_) | exact (Gu28 hf_) | exact (Ku27 hf_) | exact (OCu25 hf_).cst | exact (O91u26 hf_).cst | exact ok1.i | (exact LI.z (fun h => absurd h (by decide))) | (exact absurd hf_ (by omega)) | omega) | (unfold NBP; (try simp only [reduceIte, and_true, true_and, and_false, false_and, and_self, Nat.reduceEqDiff, fz_sA, rF_sA, rA_sA, rR_sA, rF_sT, rR_sT, sT_sF, fz_sT, rA_sT26 hp_2, rA_sT27 hp_2, rA_sT34 hp_2, rA_sT35 hp_2, rA_sT36 hp_2, rA_sT37 hp_2, rA_sT40 hp_2, TPRp_sT hp_2, WNp_sT hp_2, VMp_sT hp_2, KYp_sT hp_2, PPp_sT hp_2, WFp_sT hp_2, CCp_sT hp_2, rNMp_sT1, PNp_sT1, rk_n0 hp_2, Ks116]); omega) | (unfold NBQ; (try simp only [reduceIte, and_true, true_and, and_false, false_and, and_self, Nat.reduceEqDiff, fz_sA, rF_sA, rA_sA, rR_sA, rF_sT, rR_sT, sT_sF, fz_sT, rA_sT26 hp_2, rA_sT27 hp_2, rA_sT34 hp_2, rA_sT35 hp_2, rA_sT36 hp_2, rA_sT37 hp_2, rA_sT40 hp_2, TPRp_sT hp_2, WNp_sT hp_2, VMp_sT hp_2, KYp_sT hp_2, PPp_sT hp_2, WFp_sT hp_2, CCp_sT hp_2, rNMp_sT1, PNp_sT1, rk_n0 hp_2, Ks116]); omega) | omega | (have zz_ := fz_z (by assumption); omega) | (split <;> omega) | (exact RG.trk hp_2 I30_1 R52 (by omega)) | (exact R1) | ((repeat' split) <;> omega) | done))
    · have z80 := fz_n c80
      exact (by (try simp only [post_X14_readNamed, Ks73]); (all_goals (repeat' (first | with_reducible intro _ | with_reducible apply And.intro | with_reducible refine Exists.intro g30 ?_ | with_reducible refine Im.and ?_ ?_))); all_goals (first | assumption | trivial | ((with_reducible refine Im.i fun hf_ => ?_); first | exact (A73 hf_) | exact (Gu6 hf_) | exact (Ku5 hf_) | exact (OCu4 hf_).cst | exact ok1.i | (exact LI.z (fun h => absurd h (by decide))) | (exact absurd hf_ (by omega)) | omega) | (unfold NBP; (try simp only [Ks73]); omega) | (unfold NBQ; (try simp only [Ks73]); omega) | omega | (have zz_ := fz_z (by assumption); omega) | (split <;> omega) | (exact RG.trk hp_2 I30_1 R52 (by omega)) | (exact R1) | ((repeat' split) <;> omega) | done))
  · refine ⟨(by (try simp only [Ks30]); (all_goals (repeat' (first | with_reducible intro _ | with_reducible apply And.intro | with_reducible refine Exists.intro g30 ?_ | with_reducible refine Im.and ?_ ?_))); all_goals (first | assumption | trivial | ((with_reducible refine Im.i fun hf_ => ?_); first | exact (I30_11 hf_) | exact (G30 hf_) | exact (KA30 hf_) | exact (OC30 hf_).cst | exact ok1.i | (exact LI.z (fun h => absurd h (by decide))) | (exact absurd hf_ (by omega)) | omega) | (unfold NBP; (try simp only [Ks30]); omega) | (unfold NBQ; (try simp only [Ks30]); omega) | omega | (have zz_ := fz_z (by assumption); omega) | (split <;> omega) | (exact RG.trk hp_2 I30_1 R52 (by omega)) | (exact R1) | ((repeat' split) <;> omega) | done)), ?_⟩
    intro hr_; unfold rng at hr_
    refine ⟨fun c46 => ?_, fun c46 => ?_⟩
    · refine ⟨(by (try simp only [Ks30]); (all_goals (repeat' (first | with_reducible intro _ | with_reducible apply And.intro | with_reducible refine Exists.intro g30 ?_ | with_reducible refine Im.and ?_ ?_))); all_goals (first | assumption | trivial | ((with_reducible refine Im.i fun hf_ => ?_); first | exact (I30_11 hf_) | exact (G30 hf_) | exact (KA30 hf_) | exact (OC30 hf_).cst | exact ok1.i | (exact LI.z (fun h => absurd h (by decide))) | (exact absurd hf_ (by omega)) | omega) | (unfold NBP; (try simp only [Ks30]); omega) | (unfold NBQ; (try simp only [Ks30]); omega) | omega | (have zz_ := fz_z (by assumption); omega) | (split <;> omega) | (exact RG.trk hp_2 I30_1 R52 (by omega)) | (exact R1) | ((repeat' split) <;> omega) | done)), ?_⟩
      intro hr_; unfold rng at hr_
      have n_ : (rA s30 (1000 * ((rR σ 7) + 1) + 5) y30_4) = tr σ (rR σ 7) 5 y30_4 := (tr_rd hp_2 (Or.inl (by decide))).trans (RG.fA hp_2 I30_1)
      have Y_ : 0 < y30_4 ∧ y30_4 < rF σ (rR σ 7) 7 ∧ g 3 y30_4 = x1 ∧ g 8 y30_4 = 2 := by omega
      have L_ := (GS.nxt (f := 2) (K := K) (hp_8 (by omega)) Y_.1 Y_.2.1 Y_.2.2.1 Y_.2.2.2 (by omega) (hp_13 (by omega)).2.2.1 (by rcases hp_12 with rfl | rfl | rfl | rfl <;> decide)).2
      rw [← n_] at L_
      simp only [Int.ofNat_two] at L_
      exact (by (try simp only [inv_X14_readNamed_30, mu_X14_readNamed_30, mu_X14_readNamed_30, Ks30]); (all_goals (repeat' (first | with_reducible intro _ | with_reducible apply And.intro | with_reducible refine Exists.intro g30 ?_ | with_reducible refine Im.and ?_ ?_))); all_goals (first | assumption | trivial | ((with_reducible refine Im.i fun hf_ => ?_); first | exact (I30_11 hf_) | exact (G30 hf_) | exact (KA30 hf_) | exact (OC30 hf_).cst | exact ok1.i | (exact LI.z (fun h => absurd h (by decide))) | (exact absurd hf_ (by omega)) | omega) | (unfold NBP; (try simp only [Ks30]); omega) | (unfold NBQ; (try simp only [Ks30]); omega) | omega | (have zz_ := fz_z (by assumption); omega) | (split <;> omega) | (exact RG.trk hp_2 I30_1 R52 (by omega)) | (exact R1) | ((repeat' split) <;> omega) | done))
    · refine ⟨(by (try simp only [pre_X14_bad, Ks30]); (all_goals (repeat' (first | with_reducible intro _ | with_reducible apply And.intro | with_reducible refine Exists.intro g30 ?_ | with_reducible refine Im.and ?_ ?_))); all_goals (first | assumption | trivial | ((with_reducible refine Im.i fun hf_ => ?_); first | exact (I30_11 hf_) | exact (G30 hf_) | exact (KA30 hf_) | exact (OC30 hf_).cst | exact ok1.i | (exact LI.z (fun h => absurd h (by decide))) | (exact absurd hf_ (by omega)) | omega) | (unfold NBP; (try simp only [Ks30]); omega) | (unfold NBQ; (try simp only [Ks30]); omega) | omega | (have zz_ := fz_z (by assumption); omega) | (split <;> omega) | (exact RG.trk hp_2 I30_1 R52 (by omega)) | (exact R1) | ((repeat' split) <;> omega) | done)), ?_⟩
      intro s52 Ws52 e52_0 e52_1 e52_2 e52_3 e52_4 e52_5 e52_6 e52_7 e52_8 e52_9 e52_10 e52_11 e52_12 e52_13 e52_14 e52_15 e52_16 e52_17 e52_18 e52_19 e52_20 e52_21 e52_22 e52_23 e52_24 R52 q52
      have q52 := dig_bad q52 (by (try simp only [Ks30]); omega)
      obtain ⟨q52_1, q52_2⟩ := q52
      (try simp only [Ks30, NBP, NBQ] at q52_1 q52_2 e52_0 e52_1 e52_2 e52_3 e52_4 e52_5 e52_6 e52_7 e52_8 e52_9 e52_10 e52_11 e52_12 e52_13 e52_14 e52_15 e52_16 e52_17 e52_18 e52_19 e52_20 e52_21 e52_22 e52_23 e52_24 R52)
      have Ks52 : rR s52 7 = rR σ 7 := by first | assumption | ((try simp only [rR_sF, rR_sA, rR_sT, rR_sL] at e52_0 e52_1 e52_2 e52_3 e52_4 e52_5 e52_6 e52_7 e52_8 e52_9 e52_10 e52_11 e52_12 e52_13 e52_14 e52_15 e52_16 e52_17 e52_18 e52_19 e52_20 e52_21 e52_22 e52_23 e52_24 R52); omega)
      have zr52 := fz_rng s52
      have zc52 : fz s52 = 0 → fz s30 = 0 := fun hf => by omega
      have A52 : Im (fz s52 = 0) (RG σ s52 (rR σ 7) 0) := fun hf => RG.trk hp_2 (I30_11 (zc52 hf)) R52 (Or.inr (Or.inl rfl))
      have OCu29 : Im (fz s52 = 0) _ := fun hf => OP.gk0 (OC30 (zc52 hf)) (GK.up (g := g30) (N := rF s30 (rR σ 7) 7) (N' := rF s52 (rR σ 7) 7) (c := 0) (by first | assumption | omega | (simp only [rF_sT, rF_sA]; omega)))
      have Ku30 : Im (fz s52 = 0) (GK g g30 (rF σ (rR σ 7) 7) (rF s52 (rR σ 7) 7) 0) := fun hf => GK.trans (KA30 (zc52 hf)) (GK.up (N := rF s30 (rR σ 7) 7) (N' := rF s52 (rR σ 7) 7) (c := 0) (by first | assumption | omega | (simp only [rF_sT, rF_sA]; omega))) (Or.inr (Or.inl rfl))
      have Gu31 : Im (fz s52 = 0) (GS s52 (rR σ 7) g30) := fun hf => GS.mv hp_2 (G30 (zc52 hf)) R52 (by first | assumption | omega | (simp only [rF_sT, rF_sA]; omega)) (by first | (exact Int.le_of_eq (Eq.symm (by assumption))) | omega | (simp only [rF_sT, rF_sA]; omega))
      have rNMp_52 := e52_0 I30_3; clear e52_0
      have TPRp_52 := e52_1 TPRp_30; clear e52_1
      have WNp_52 := e52_2 I30_4; clear e52_2
      have PNp_52 := e52_3 I30_5; clear e52_3
      have CCp_52 := e52_4 CCp_30; clear e52_4
      refine ⟨(by (try simp only [Ks52]); (all_goals (repeat' (first | with_reducible intro _ | with_reducible apply And.intro | with_reducible refine Exists.intro g30 ?_ | with_reducible refine Im.and ?_ ?_))); all_goals (first | assumption | trivial | ((with_reducible refine Im.i fun hf_ => ?_); first | exact (A52 hf_) | exact (Gu31 hf_) | exact (Ku30 hf_) | exact (OCu29 hf_).cst | exact ok1.i | (exact LI.z (fun h => absurd h (by decide))) | (exact absurd hf_ (by omega)) | omega) | (unfold NBP; (try simp only [Ks52]); omega) | (unfold NBQ; (try simp only [Ks52]); omega) | omega | (have zz_ := fz_z (by assumption); omega) | (split <;> omega) | (exact RG.trk hp_2 I30_1 R52 (by omega)) | (exact R1) | ((repeat' split) <;> omega) | done)), ?_⟩
      intro hr_; unfold rng at hr_
      have n_ : (rA s52 (1000 * ((rR σ 7) + 1) + 5) y30_4) = tr σ (rR σ 7) 5 y30_4 := (tr_rd hp_2 (Or.inl (by decide))).trans (RG.fA hp_2 (RG.trk hp_2 I30_1 R52 (by omega)))
      have Y_ : 0 < y30_4 ∧ y30_4 < rF σ (rR σ 7) 7 ∧ g 3 y30_4 = x1 ∧ g 8 y30_4 = 2 := by omega
      have L_ := (GS.nxt (f := 2) (K := K) (hp_8 (by omega)) Y_.1 Y_.2.1 Y_.2.2.1 Y_.2.2.2 (by omega) (hp_13 (by omega)).2.2.1 (by rcases hp_12 with rfl | rfl | rfl | rfl <;> decide)).2
      rw [← n_] at L_
      simp only [Int.ofNat_two] at L_
      exact (by (try simp only [inv_X14_readNamed_30, mu_X14_readNamed_30, mu_X14_readNamed_30, Ks52]); (all_goals (repeat' (first | with_reducible intro _ | with_reducible apply And.intro | with_reducible refine Exists.intro g30 ?_ | with_reducible refine Im.and ?_ ?_))); all_goals (first | assumption | trivial | ((with_reducible refine Im.i fun hf_ => ?_); first | exact (A52 hf_) | exact (Gu31 hf_) | exact (Ku30 hf_) | exact (OCu29 hf_).cst | exact ok1.i | (exact LI.z (fun h => absurd h (by decide))) | (exact absurd hf_ (by omega)) | omega) | (unfold NBP; (try simp only [Ks52]); omega) | (unfold NBQ; (try simp only [Ks52]); omega) | omega | (have zz_ := fz_z (by assumption); omega) | (split <;> omega) | (exact RG.trk hp_2 I30_1 R52 (by omega)) | (exact R1) | ((repeat' split) <;> omega) | done))
set_option maxHeartbeats 20000000 in
theorem vX14_readNamed_30m (n : Nat) (σ : rS) (x1 : Int) (gg : Nat) (g : Nat → Int → Int) (K : Nat) (hwf : rWF σ) (hx1 : rng x1) (hp : pre_X14_readNamed σ x1 gg g K) (hr : rk_X14_readNamed σ x1 gg g K ≤ n + 1) : VC_X14_readNamed_30m n σ x1 gg g K := by
  unfold pre_X14_readNamed at hp
  obtain ⟨hp_1, hp_2, hp_3, hp_4, hp_5, hp_6, hp_7, hp_8, hp_9, hp_10, hp_11, hp_12, hp_13⟩ := hp
  unfold rng at hx1
  subst hp_1
  unfold rk_X14_readNamed at hr
  have hN := hp_4
  unfold NBP at hN
  have hC := hp_3
  unfold CCp at hC
  obtain ⟨hC1, hC⟩ := hC
  have zr0 := fz_rng σ
  have hr2 : fz σ = 0 → 16 * (21 - rF σ 0 31).toNat + 2 ≤ n + 1 := fun h => by rw [if_pos h] at hr; exact hr
  have hr3 : 2 ≤ n + 1 := by have := hr; split at this <;> omega
  clear hr
  unfold VC_X14_readNamed_30m
  (try simp only [inv_X14_readNamed_30, mu_X14_readNamed_30]); (all_goals (repeat' (first | with_reducible intro _ | with_reducible apply And.intro))); all_goals (first | assumption | omega | grind (splits := 20))
