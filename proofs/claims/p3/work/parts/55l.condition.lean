def VC_X14_condition (n : Nat) (σ : rS) (gg : Nat) (g : Nat → Int → Int) (Q : Int → rS → Prop) : Prop := rgk (rR σ 7) ∧ (rng (rF σ 0 10) → (((rF σ 0 10) = 0 → pre_X14_need σ 40 ∧ (∀ (s12 : rS), rWF s12 → (rNMp σ → rNMp s12) → (TPRp σ → TPRp s12) → (WNp σ → WNp s12) → (PNp σ → PNp s12) → (CCp σ → CCp s12) → rR s12 7 = rR σ 7 → rF s12 0 14 = rF σ 0 14 → rF s12 0 19 = rF σ 0 19 → rF s12 0 28 = rF σ 0 28 → rF s12 0 30 = rF σ 0 30 → rF s12 0 31 = rF σ 0 31 → rF s12 0 32 = rF σ 0 32 → rF s12 0 33 = rF σ 0 33 → rF s12 0 38 = rF σ 0 38 → rF s12 0 39 = rF σ 0 39 → (∀ i, rA s12 1026 i = rA σ 1026 i) → rF s12 (rR σ 7) 7 = rF σ (rR σ 7) 7 → rF s12 (rR σ 7) 9 = rF σ (rR σ 7) 9 → rF s12 (rR σ 7) 12 = rF σ (rR σ 7) 12 → rF s12 (rR σ 7) 32 = rF σ (rR σ 7) 32 → rF s12 (rR σ 7) 38 = rF σ (rR σ 7) 38 → RG σ s12 (rR σ 7) 0 → post_X14_need σ 40 s12 → ∃ (g11 : Nat → Int → Int), pre_X14_readCond s12 gg g11 ∧ rk_X14_readCond s12 gg g11 ≤ n ∧ (∀ (v16 : Int) (s16 : rS), rng v16 → rWF s16 → (TPRp s12 → TPRp s16) → (CCp s12 → CCp s16) → rR s16 7 = rR s12 7 → rF s16 0 14 = rF s12 0 14 → rF s16 0 19 = rF s12 0 19 → rF s16 0 28 = rF s12 0 28 → rF s16 0 30 = rF s12 0 30 → rF s16 0 32 = rF s12 0 32 → rF s16 0 33 = rF s12 0 33 → (∀ i, rA s16 1026 i = rA s12 1026 i) → post_X14_readCond s12 gg g11 v16 s16 → pre_X14_need s16 41 ∧ (∀ (s23 : rS), rWF s23 → (rNMp s16 → rNMp s23) → (TPRp s16 → TPRp s23) → (WNp s16 → WNp s23) → (PNp s16 → PNp s23) → (CCp s16 → CCp s23) → rR s23 7 = rR s16 7 → rF s23 0 14 = rF s16 0 14 → rF s23 0 19 = rF s16 0 19 → rF s23 0 28 = rF s16 0 28 → rF s23 0 30 = rF s16 0 30 → rF s23 0 31 = rF s16 0 31 → rF s23 0 32 = rF s16 0 32 → rF s23 0 33 = rF s16 0 33 → rF s23 0 38 = rF s16 0 38 → rF s23 0 39 = rF s16 0 39 → (∀ i, rA s23 1026 i = rA s16 1026 i) → rF s23 (rR σ 7) 7 = rF s16 (rR σ 7) 7 → rF s23 (rR σ 7) 9 = rF s16 (rR σ 7) 9 → rF s23 (rR σ 7) 12 = rF s16 (rR σ 7) 12 → rF s23 (rR σ 7) 32 = rF s16 (rR σ 7) 32 → rF s23 (rR σ 7) 38 = rF s16 (rR σ 7) 38 → RG s16 s23 (rR σ 7) 0 → post_X14_need s16 41 s23 → (rng (rF s23 0 19) → pre_X14_need s23 (rF s23 0 19) ∧ (∀ (s31 : rS), rWF s31 → (rNMp s23 → rNMp s31) → (TPRp s23 → TPRp s31) → (WNp s23 → WNp s31) → (PNp s23 → PNp s31) → (CCp s23 → CCp s31) → rR s31 7 = rR s23 7 → rF s31 0 14 = rF s23 0 14 → rF s31 0 19 = rF s23 0 19 → rF s31 0 28 = rF s23 0 28 → rF s31 0 30 = rF s23 0 30 → rF s31 0 31 = rF s23 0 31 → rF s31 0 32 = rF s23 0 32 → rF s31 0 33 = rF s23 0 33 → rF s31 0 38 = rF s23 0 38 → rF s31 0 39 = rF s23 0 39 → (∀ i, rA s31 1026 i = rA s23 1026 i) → rF s31 (rR σ 7) 7 = rF s23 (rR σ 7) 7 → rF s31 (rR σ 7) 9 = rF s23 (rR σ 7) 9 → rF s31 (rR σ 7) 12 = rF s23 (rR σ 7) 12 → rF s31 (rR σ 7) 32 = rF s23 (rR σ 7) 32 → rF s31 (rR σ 7) 38 = rF s23 (rR σ 7) 38 → RG s23 s31 (rR σ 7) 0 → post_X14_need s23 (rF s23 0 19) s31 → Q v16 s31)))))) ∧ (¬ (rF σ 0 10) = 0 → Q 0 σ)))
set_option maxHeartbeats 20000000 in
theorem vX14_condition (n : Nat) (σ : rS) (gg : Nat) (g : Nat → Int → Int) (hwf : rWF σ) (hp : pre_X14_condition σ gg g) (hr : rk_X14_condition σ gg g ≤ n + 1) : VC_X14_condition n σ gg g (post_X14_condition σ gg g) := by
  unfold pre_X14_condition at hp
  obtain ⟨hp_1, hp_2, hp_3, hp_4, hp_5, hp_6, hp_7, hp_8⟩ := hp
  subst hp_1
  unfold rk_X14_condition at hr
  have hN := hp_4
  unfold NBP at hN
  have hC := hp_3
  unfold CCp at hC
  obtain ⟨hC1, hC⟩ := hC
  have zr0 := fz_rng σ
  have hr2 : fz σ = 0 → 16 * (21 - rF σ 0 31).toNat + 12 ≤ n + 1 := fun h => by rw [if_pos h] at hr; exact hr
  have hr3 : 12 ≤ n + 1 := by have := hr; split at this <;> omega
  clear hr
  unfold VC_X14_condition
  refine ⟨(by (all_goals (repeat' (first | with_reducible intro _ | with_reducible apply And.intro))); all_goals (first | assumption | trivial | (unfold NBP; omega) | (unfold NBQ; omega) | omega | (have zz_ := fz_z (by assumption); omega) | (split <;> omega) | done)), ?_⟩
  intro hr_; unfold rng at hr_
  refine ⟨fun c4 => ?_, fun c4 => ?_⟩
  · have z4 := fz_z c4
    refine ⟨(by (try simp only [pre_X14_need]); (all_goals (repeat' (first | with_reducible intro _ | with_reducible apply And.intro | with_reducible refine Exists.intro g ?_ | with_reducible refine Im.and ?_ ?_))); all_goals (first | assumption | trivial | ((with_reducible refine Im.i fun hf_ => ?_); first | exact ((fun _ => RG.rf) hf_) | exact (hp_8 hf_) | exact ((fun _ => GK.rf) hf_) | exact ok1.i | (exact LI.z (fun h => absurd h (by decide))) | (exact absurd hf_ (by omega)) | omega) | (unfold NBP; omega) | (unfold NBQ; omega) | omega | (have zz_ := fz_z (by assumption); omega) | (split <;> omega) | done)), ?_⟩
    intro s12 Ws12 e12_0 e12_1 e12_2 e12_3 e12_4 e12_5 e12_6 e12_7 e12_8 e12_9 e12_10 e12_11 e12_12 e12_13 e12_14 e12_15 e12_16 e12_17 e12_18 e12_19 e12_20 R12 q12
    have q12 := dig_need q12 (by omega)
    obtain ⟨q12_1, q12_2, q12_3, q12_4⟩ := q12
    (try simp only [NBP, NBQ] at q12_1 q12_2 q12_3 q12_4 e12_0 e12_1 e12_2 e12_3 e12_4 e12_5 e12_6 e12_7 e12_8 e12_9 e12_10 e12_11 e12_12 e12_13 e12_14 e12_15 e12_16 e12_17 e12_18 e12_19 e12_20 R12)
    have Ks12 : rR s12 7 = rR σ 7 := by first | assumption | ((try simp only [rR_sF, rR_sA, rR_sT, rR_sL] at e12_0 e12_1 e12_2 e12_3 e12_4 e12_5 e12_6 e12_7 e12_8 e12_9 e12_10 e12_11 e12_12 e12_13 e12_14 e12_15 e12_16 e12_17 e12_18 e12_19 e12_20 R12); omega)
    have zr12 := fz_rng s12
    have zc12 : fz s12 = 0 → fz σ = 0 := fun hf => by omega
    have A12 : Im (fz s12 = 0) (RG σ s12 (rR σ 7) 0) := fun hf => RG.trk hp_2 ((fun _ => RG.rf) (zc12 hf)) R12 (Or.inr (Or.inl rfl))
    have Ku1 : Im (fz s12 = 0) (GK g g (rF σ (rR σ 7) 7) (rF s12 (rR σ 7) 7) 0) := fun hf => GK.trans ((fun _ => GK.rf) (zc12 hf)) (GK.up (N := rF σ (rR σ 7) 7) (N' := rF s12 (rR σ 7) 7) (c := 0) (by first | assumption | omega | (simp only [rF_sT, rF_sA]; omega))) (Or.inr (Or.inl rfl))
    have Gu2 : Im (fz s12 = 0) (GS s12 (rR σ 7) g) := fun hf => GS.mv hp_2 (hp_8 (zc12 hf)) R12 (by first | assumption | omega | (simp only [rF_sT, rF_sA]; omega)) (by first | (exact Int.le_of_eq (Eq.symm (by assumption))) | omega | (simp only [rF_sT, rF_sA]; omega))
    have rNMp_12 := e12_0 hp_5; clear e12_0
    have TPRp_12 := e12_1 hC1; clear e12_1
    have WNp_12 := e12_2 hp_6; clear e12_2
    have PNp_12 := e12_3 hp_7; clear e12_3
    have CCp_12 := e12_4 hp_3; clear e12_4
    refine ⟨g, ?_⟩
    refine ⟨(by (try simp only [pre_X14_readCond, Ks12]); (all_goals (repeat' (first | with_reducible intro _ | with_reducible apply And.intro | with_reducible refine Exists.intro g ?_ | with_reducible refine Im.and ?_ ?_))); all_goals (first | assumption | trivial | ((with_reducible refine Im.i fun hf_ => ?_); first | exact (A12 hf_) | exact (Gu2 hf_) | exact (Ku1 hf_) | exact ok1.i | (exact LI.z (fun h => absurd h (by decide))) | (exact absurd hf_ (by omega)) | omega) | (unfold NBP; (try simp only [Ks12]); omega) | (unfold NBQ; (try simp only [Ks12]); omega) | omega | (have zz_ := fz_z (by assumption); omega) | (split <;> omega) | done)), ?_⟩
    refine ⟨(by (try simp only [rk_X14_readCond, Ks12]); (all_goals (repeat' (first | with_reducible intro _ | with_reducible apply And.intro | with_reducible refine Exists.intro g ?_ | with_reducible refine Im.and ?_ ?_))); all_goals (first | assumption | trivial | ((with_reducible refine Im.i fun hf_ => ?_); first | exact (A12 hf_) | exact (Gu2 hf_) | exact (Ku1 hf_) | exact ok1.i | (exact LI.z (fun h => absurd h (by decide))) | (exact absurd hf_ (by omega)) | omega) | (unfold NBP; (try simp only [Ks12]); omega) | (unfold NBQ; (try simp only [Ks12]); omega) | omega | (have zz_ := fz_z (by assumption); omega) | (split <;> omega) | done)), ?_⟩
    intro v16 s16 hv16 Ws16 e16_0 e16_1 e16_2 e16_3 e16_4 e16_5 e16_6 e16_7 e16_8 e16_9 q16
    unfold rng at hv16
    unfold post_X14_readCond at q16
    obtain ⟨q16_1, q16_2, q16_3, q16_4, q16_5, q16_6, q16_7, q16_8, q16_9⟩ := q16
    (try simp only [Ks12, NBP, NBQ] at q16_1 q16_2 q16_3 q16_4 q16_5 q16_6 q16_7 q16_8 q16_9 e16_0 e16_1 e16_2 e16_3 e16_4 e16_5 e16_6 e16_7 e16_8 e16_9)
    have Ks16 : rR s16 7 = rR σ 7 := by first | assumption | ((try simp only [rR_sF, rR_sA, rR_sT, rR_sL] at e16_0 e16_1 e16_2 e16_3 e16_4 e16_5 e16_6 e16_7 e16_8 e16_9); omega)
    have zr16 := fz_rng s16
    have zc16 : fz s16 = 0 → fz s12 = 0 := fun hf => by omega
    have A16 : Im (fz s16 = 0) (RG σ s16 (rR σ 7) 0) := fun hf => RG.trk hp_2 (A12 (zc16 hf)) (q16_8 (by omega)) (Or.inr (Or.inl rfl))
    obtain ⟨g16, X16⟩ := q16_9
    have Ku3 : Im (fz s16 = 0) (GK g g16 (rF σ (rR σ 7) 7) (rF s16 (rR σ 7) 7) 0) := fun hf => GK.trans (Ku1 (zc16 hf)) ((X16 hf).2.1) (Or.inr (Or.inl rfl))
    have Gu4 : Im (fz s16 = 0) (GS s16 (rR σ 7) g16) := fun hf => (X16 hf).1
    have r16 : Im (fz s16 = 0) _ := fun hf => (X16 hf).2.2.1
    have TPRp_16 := e16_0 TPRp_12; clear e16_0
    have CCp_16 := e16_1 CCp_12; clear e16_1
    refine ⟨(by (try simp only [pre_X14_need, Ks16]); (all_goals (repeat' (first | with_reducible intro _ | with_reducible apply And.intro | with_reducible refine Exists.intro g16 ?_ | with_reducible refine Im.and ?_ ?_))); all_goals (first | assumption | trivial | ((with_reducible refine Im.i fun hf_ => ?_); first | exact (A16 hf_) | exact (Gu4 hf_) | exact (Ku3 hf_) | exact (r16 hf_).cst | exact ok1.i | (exact LI.z (fun h => absurd h (by decide))) | (exact absurd hf_ (by omega)) | omega) | (unfold NBP; (try simp only [Ks16]); omega) | (unfold NBQ; (try simp only [Ks16]); omega) | omega | (have zz_ := fz_z (by assumption); omega) | (split <;> omega) | done)), ?_⟩
    intro s23 Ws23 e23_0 e23_1 e23_2 e23_3 e23_4 e23_5 e23_6 e23_7 e23_8 e23_9 e23_10 e23_11 e23_12 e23_13 e23_14 e23_15 e23_16 e23_17 e23_18 e23_19 e23_20 R23 q23
    have q23 := dig_need q23 (by (try simp only [Ks16]); omega)
    obtain ⟨q23_1, q23_2, q23_3, q23_4⟩ := q23
    (try simp only [Ks16, NBP, NBQ] at q23_1 q23_2 q23_3 q23_4 e23_0 e23_1 e23_2 e23_3 e23_4 e23_5 e23_6 e23_7 e23_8 e23_9 e23_10 e23_11 e23_12 e23_13 e23_14 e23_15 e23_16 e23_17 e23_18 e23_19 e23_20 R23)
    have Ks23 : rR s23 7 = rR σ 7 := by first | assumption | ((try simp only [rR_sF, rR_sA, rR_sT, rR_sL] at e23_0 e23_1 e23_2 e23_3 e23_4 e23_5 e23_6 e23_7 e23_8 e23_9 e23_10 e23_11 e23_12 e23_13 e23_14 e23_15 e23_16 e23_17 e23_18 e23_19 e23_20 R23); omega)
    have zr23 := fz_rng s23
    have zc23 : fz s23 = 0 → fz s16 = 0 := fun hf => by omega
    have A23 : Im (fz s23 = 0) (RG σ s23 (rR σ 7) 0) := fun hf => RG.trk hp_2 (A16 (zc23 hf)) R23 (Or.inr (Or.inl rfl))
    have r16u5 : Im (fz s23 = 0) _ := fun hf => NR.gk (r16 (zc23 hf)) (GK.up (g := g16) (N := rF s16 (rR σ 7) 7) (N' := rF s23 (rR σ 7) 7) (c := 0) (by first | assumption | omega | (simp only [rF_sT, rF_sA]; omega)))
    have Ku6 : Im (fz s23 = 0) (GK g g16 (rF σ (rR σ 7) 7) (rF s23 (rR σ 7) 7) 0) := fun hf => GK.trans (Ku3 (zc23 hf)) (GK.up (N := rF s16 (rR σ 7) 7) (N' := rF s23 (rR σ 7) 7) (c := 0) (by first | assumption | omega | (simp only [rF_sT, rF_sA]; omega))) (Or.inr (Or.inl rfl))
    have Gu7 : Im (fz s23 = 0) (GS s23 (rR σ 7) g16) := fun hf => GS.mv hp_2 (Gu4 (zc23 hf)) R23 (by first | assumption | omega | (simp only [rF_sT, rF_sA]; omega)) (by first | (exact Int.le_of_eq (Eq.symm (by assumption))) | omega | (simp only [rF_sT, rF_sA]; omega))
    have rNMp_23 := e23_0 q16_2; clear e23_0
    have TPRp_23 := e23_1 TPRp_16; clear e23_1
    have WNp_23 := e23_2 q16_3; clear e23_2
    have PNp_23 := e23_3 q16_4; clear e23_3
    have CCp_23 := e23_4 CCp_16; clear e23_4
    intro hr_; unfold rng at hr_
    refine ⟨(by (try simp only [pre_X14_need, Ks23]); (all_goals (repeat' (first | with_reducible intro _ | with_reducible apply And.intro | with_reducible refine Exists.intro g16 ?_ | with_reducible refine Im.and ?_ ?_))); all_goals (first | assumption | trivial | ((with_reducible refine Im.i fun hf_ => ?_); first | exact (A23 hf_) | exact (Gu7 hf_) | exact (Ku6 hf_) | exact (r16u5 hf_).cst | exact ok1.i | (exact LI.z (fun h => absurd h (by decide))) | (exact absurd hf_ (by omega)) | omega) | (unfold NBP; (try simp only [Ks23]); omega) | (unfold NBQ; (try simp only [Ks23]); omega) | omega | (have zz_ := fz_z (by assumption); omega) | (split <;> omega) | done)), ?_⟩
    intro s31 Ws31 e31_0 e31_1 e31_2 e31_3 e31_4 e31_5 e31_6 e31_7 e31_8 e31_9 e31_10 e31_11 e31_12 e31_13 e31_14 e31_15 e31_16 e31_17 e31_18 e31_19 e31_20 R31 q31
    have q31 := dig_need q31 (by (try simp only [Ks23]); omega)
    obtain ⟨q31_1, q31_2, q31_3, q31_4⟩ := q31
    (try simp only [Ks23, NBP, NBQ] at q31_1 q31_2 q31_3 q31_4 e31_0 e31_1 e31_2 e31_3 e31_4 e31_5 e31_6 e31_7 e31_8 e31_9 e31_10 e31_11 e31_12 e31_13 e31_14 e31_15 e31_16 e31_17 e31_18 e31_19 e31_20 R31)
    have Ks31 : rR s31 7 = rR σ 7 := by first | assumption | ((try simp only [rR_sF, rR_sA, rR_sT, rR_sL] at e31_0 e31_1 e31_2 e31_3 e31_4 e31_5 e31_6 e31_7 e31_8 e31_9 e31_10 e31_11 e31_12 e31_13 e31_14 e31_15 e31_16 e31_17 e31_18 e31_19 e31_20 R31); omega)
    have zr31 := fz_rng s31
    have zc31 : fz s31 = 0 → fz s23 = 0 := fun hf => by omega
    have A31 : Im (fz s31 = 0) (RG σ s31 (rR σ 7) 0) := fun hf => RG.trk hp_2 (A23 (zc31 hf)) R31 (Or.inr (Or.inl rfl))
    have r16u8 : Im (fz s31 = 0) _ := fun hf => NR.gk (r16u5 (zc31 hf)) (GK.up (g := g16) (N := rF s23 (rR σ 7) 7) (N' := rF s31 (rR σ 7) 7) (c := 0) (by first | assumption | omega | (simp only [rF_sT, rF_sA]; omega)))
    have Ku9 : Im (fz s31 = 0) (GK g g16 (rF σ (rR σ 7) 7) (rF s31 (rR σ 7) 7) 0) := fun hf => GK.trans (Ku6 (zc31 hf)) (GK.up (N := rF s23 (rR σ 7) 7) (N' := rF s31 (rR σ 7) 7) (c := 0) (by first | assumption | omega | (simp only [rF_sT, rF_sA]; omega))) (Or.inr (Or.inl rfl))
    have Gu10 : Im (fz s31 = 0) (GS s31 (rR σ 7) g16) := fun hf => GS.mv hp_2 (Gu7 (zc31 hf)) R31 (by first | assumption | omega | (simp only [rF_sT, rF_sA]; omega)) (by first | (exact Int.le_of_eq (Eq.symm (by assumption))) | omega | (simp only [rF_sT, rF_sA]; omega))
    have rNMp_31 := e31_0 rNMp_23; clear e31_0
    have TPRp_31 := e31_1 TPRp_23; clear e31_1
    have WNp_31 := e31_2 WNp_23; clear e31_2
    have PNp_31 := e31_3 PNp_23; clear e31_3
    have CCp_31 := e31_4 CCp_23; clear e31_4
    exact (by (try simp only [post_X14_condition, Ks31]); (all_goals (repeat' (first | with_reducible intro _ | with_reducible apply And.intro | with_reducible refine Exists.intro g16 ?_ | with_reducible refine Im.and ?_ ?_))); all_goals (first | assumption | trivial | ((with_reducible refine Im.i fun hf_ => ?_); first | exact (A31 hf_) | exact (Gu10 hf_) | exact (Ku9 hf_) | exact (r16u8 hf_).cst | exact ok1.i | (exact LI.z (fun h => absurd h (by decide))) | (exact absurd hf_ (by omega)) | omega) | (unfold NBP; (try simp only [Ks31]); omega) | (unfold NBQ; (try simp only [Ks31]); omega) | omega | (have zz_ := fz_z (by assumption); omega) | (split <;> omega) | done))
  · have z4 := fz_n c4
    exact (by (try simp only [post_X14_condition]); (all_goals (repeat' (first | with_reducible intro _ | with_reducible apply And.intro | with_reducible refine Exists.intro g ?_ | with_reducible refine Im.and ?_ ?_))); all_goals (first | assumption | trivial | ((with_reducible refine Im.i fun hf_ => ?_); first | exact ((fun _ => RG.rf) hf_) | exact (hp_8 hf_) | exact ((fun _ => GK.rf) hf_) | exact ok1.i | (exact LI.z (fun h => absurd h (by decide))) | (exact absurd hf_ (by omega)) | omega) | (unfold NBP; omega) | (unfold NBQ; omega) | omega | (have zz_ := fz_z (by assumption); omega) | (split <;> omega) | done))
