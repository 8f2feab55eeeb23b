set_option maxHeartbeats 20000000 in
theorem vX14_readArgs (n : Nat) (σ : rS) (x1 : Int) (gg : Nat) (g : Nat → Int → Int) (K : Nat) (hwf : rWF σ) (hx1 : rng x1) (hp : pre_X14_readArgs σ x1 gg g K) (hr : rk_X14_readArgs σ x1 gg g K ≤ n + 1) : VC_X14_readArgs n σ x1 gg g K (post_X14_readArgs σ x1 gg g K) := by
  unfold pre_X14_readArgs at hp
  obtain ⟨hp_1, hp_2, hp_3, hp_4, hp_5, hp_6, hp_7, hp_8, hp_9, hp_10, hp_11, hp_12, hp_13, hp_14⟩ := hp
  unfold rng at hx1
  subst hp_1
  unfold rk_X14_readArgs at hr
  have hN := hp_4
  unfold NBP at hN
  have hC := hp_3
  unfold CCp at hC
  obtain ⟨hC1, hC⟩ := hC
  have zr0 := fz_rng σ
  have hr2 : fz σ = 0 → 16 * (21 - rF σ 0 31).toNat + 3 ≤ n + 1 := fun h => by rw [if_pos h] at hr; exact hr
  have hr3 : 3 ≤ n + 1 := by have := hr; split at this <;> omega
  clear hr
  unfold VC_X14_readArgs
  refine ⟨(by (all_goals (repeat' (first | with_reducible intro _ | with_reducible apply And.intro))); all_goals (first | assumption | trivial | (unfold NBP; omega) | (unfold NBQ; omega) | omega | (have zz_ := fz_z (by assumption); omega) | (split <;> omega) | done)), ?_⟩
  refine ⟨(by (try simp only [pre_X14_blanks]); (all_goals (repeat' (first | with_reducible intro _ | with_reducible apply And.intro | with_reducible refine Exists.intro g ?_ | with_reducible refine Im.and ?_ ?_))); all_goals (first | assumption | trivial | ((with_reducible refine Im.i fun hf_ => ?_); first | exact ((fun _ => RG.rf) hf_) | exact (hp_8 hf_) | exact ((fun _ => GK.rf) hf_) | exact (hp_13 hf_).cst | exact (hp_14 hf_) | exact ok1.i | (exact LI.z (fun h => absurd h (by decide))) | (exact absurd hf_ (by omega)) | omega) | (unfold NBP; omega) | (unfold NBQ; omega) | omega | (have zz_ := fz_z (by assumption); omega) | (split <;> omega) | done)), ?_⟩
  intro s1 Ws1 e1_0 e1_1 e1_2 e1_3 e1_4 e1_5 e1_6 e1_7 e1_8 e1_9 e1_10 e1_11 e1_12 e1_13 e1_14 e1_15 e1_16 e1_17 e1_18 e1_19 e1_20 e1_21 e1_22 R1 q1
  have q1 := dig_blanks q1 (by omega)
  obtain ⟨q1_1, q1_2⟩ := q1
  (try simp only [NBP, NBQ] at q1_1 q1_2 e1_0 e1_1 e1_2 e1_3 e1_4 e1_5 e1_6 e1_7 e1_8 e1_9 e1_10 e1_11 e1_12 e1_13 e1_14 e1_15 e1_16 e1_17 e1_18 e1_19 e1_20 e1_21 e1_22 R1)
  have Ks1 : rR s1 7 = rR σ 7 := by first | assumption | ((try simp only [rR_sF, rR_sA, rR_sT, rR_sL] at e1_0 e1_1 e1_2 e1_3 e1_4 e1_5 e1_6 e1_7 e1_8 e1_9 e1_10 e1_11 e1_12 e1_13 e1_14 e1_15 e1_16 e1_17 e1_18 e1_19 e1_20 e1_21 e1_22 R1); omega)
  have zr1 := fz_rng s1
  have zc1 : fz s1 = 0 → fz σ = 0 := fun hf => by omega
  have A1 : Im (fz s1 = 0) (RG σ s1 (rR σ 7) x1) := fun hf => RG.trk hp_2 ((fun _ => RG.rf) (zc1 hf)) R1 (Or.inr (Or.inl rfl))
  have Ou1 : Im (fz s1 = 0) _ := fun hf => OP.gk0 (hp_13 (zc1 hf)) (GK.up (g := g) (N := rF σ (rR σ 7) 7) (N' := rF s1 (rR σ 7) 7) (c := 0) (by first | assumption | omega | (simp only [rF_sT, rF_sA]; omega)))
  have Lu2 : Im (fz s1 = 0) _ := fun hf => LI.gk0 hp_2 (hp_14 (zc1 hf)) (hp_13 (zc1 hf)) R1 (GK.up (g := g) (N := rF σ (rR σ 7) 7) (N' := rF s1 (rR σ 7) 7) (c := 0) (by first | assumption | omega | (simp only [rF_sT, rF_sA]; omega)))
  have Ku3 : Im (fz s1 = 0) (GK g g (rF σ (rR σ 7) 7) (rF s1 (rR σ 7) 7) x1) := fun hf => GK.trans ((fun _ => GK.rf) (zc1 hf)) (GK.up (N := rF σ (rR σ 7) 7) (N' := rF s1 (rR σ 7) 7) (c := 0) (by first | assumption | omega | (simp only [rF_sT, rF_sA]; omega))) (Or.inr (Or.inl rfl))
  have Gu4 : Im (fz s1 = 0) (GS s1 (rR σ 7) g) := fun hf => GS.mv hp_2 (hp_8 (zc1 hf)) R1 (by first | assumption | omega | (simp only [rF_sT, rF_sA]; omega)) (by first | (exact Int.le_of_eq (Eq.symm (by assumption))) | omega | (simp only [rF_sT, rF_sA]; omega))
  have rNMp_1 := e1_0 hp_5; clear e1_0
  have TPRp_1 := e1_1 hC1; clear e1_1
  have WNp_1 := e1_2 hp_6; clear e1_2
  have PNp_1 := e1_3 hp_7; clear e1_3
  have CCp_1 := e1_4 hp_3; clear e1_4
  intro hr_; unfold rng at hr_
  refine ⟨fun c8 => ?_, fun c8 => ?_⟩
  · have z8 := fz_z c8
    refine ⟨(by (try simp only [pre_X14_here, Ks1]); (all_goals (repeat' (first | with_reducible intro _ | with_reducible apply And.intro | with_reducible refine Exists.intro g ?_ | with_reducible refine Im.and ?_ ?_))); all_goals (first | assumption | trivial | ((with_reducible refine Im.i fun hf_ => ?_); first | exact (A1 hf_) | exact (Gu4 hf_) | exact (Ku3 hf_) | exact (Ou1 hf_).cst | exact (Lu2 hf_) | exact ok1.i | (exact LI.z (fun h => absurd h (by decide))) | (exact absurd hf_ (by omega)) | omega) | (unfold NBP; (try simp only [Ks1]); omega) | (unfold NBQ; (try simp only [Ks1]); omega) | omega | (have zz_ := fz_z (by assumption); omega) | (split <;> omega) | done)), ?_⟩
    intro v13 hv13 q13
    unfold rng at hv13
    unfold post_X14_here at q13
    obtain ⟨q13_1, q13_2⟩ := q13
    (try simp only [Ks1, NBP, NBQ] at q13_1 q13_2)
    refine ⟨fun c18 => ?_, fun c18 => ?_⟩
    · refine ⟨(by (try simp only [pre_X14_isDots, Ks1]); (all_goals (repeat' (first | with_reducible intro _ | with_reducible apply And.intro | with_reducible refine Exists.intro g ?_ | with_reducible refine Im.and ?_ ?_))); all_goals (first | assumption | trivial | ((with_reducible refine Im.i fun hf_ => ?_); first | exact (A1 hf_) | exact (Gu4 hf_) | exact (Ku3 hf_) | exact (Ou1 hf_).cst | exact (Lu2 hf_) | exact ok1.i | (exact LI.z (fun h => absurd h (by decide))) | (exact absurd hf_ (by omega)) | omega) | (unfold NBP; (try simp only [Ks1]); omega) | (unfold NBQ; (try simp only [Ks1]); omega) | omega | (have zz_ := fz_z (by assumption); omega) | (split <;> omega) | done)), ?_⟩
      intro v33 hv33 q33
      unfold rng at hv33
      unfold post_X14_isDots at q33
      obtain ⟨q33_1, q33_2⟩ := q33
      (try simp only [Ks1, NBP, NBQ] at q33_1 q33_2)
      refine ⟨fun c36 => ?_, fun c36 => ?_⟩
      · refine ⟨(by (try simp only [pre_X14_isNamed, Ks1]); (all_goals (repeat' (first | with_reducible intro _ | with_reducible apply And.intro | with_reducible refine Exists.intro g ?_ | with_reducible refine Im.and ?_ ?_))); all_goals (first | assumption | trivial | ((with_reducible refine Im.i fun hf_ => ?_); first | exact (A1 hf_) | exact (Gu4 hf_) | exact (Ku3 hf_) | exact (Ou1 hf_).cst | exact (Lu2 hf_) | exact ok1.i | (exact LI.z (fun h => absurd h (by decide))) | (exact absurd hf_ (by omega)) | omega) | (unfold NBP; (try simp only [Ks1]); omega) | (unfold NBQ; (try simp only [Ks1]); omega) | omega | (have zz_ := fz_z (by assumption); omega) | (split <;> omega) | done)), ?_⟩
        intro v46 hv46 q46
        unfold rng at hv46
        unfold post_X14_isNamed at q46
        (try simp only [Ks1, NBP, NBQ] at q46)
        exact (by (try simp only [inv_X14_readArgs_55, Ks1]); (all_goals (repeat' (first | with_reducible intro _ | with_reducible apply And.intro | with_reducible refine Exists.intro g ?_ | with_reducible refine Im.and ?_ ?_))); all_goals (first | assumption | trivial | ((with_reducible refine Im.i fun hf_ => ?_); first | exact (A1 hf_) | exact (Gu4 hf_) | exact (Ku3 hf_) | exact (Ou1 hf_).cst | exact (Lu2 hf_) | exact ok1.i | (exact LI.z (fun h => absurd h (by decide))) | (exact absurd hf_ (by omega)) | omega) | (unfold NBP; (try simp only [Ks1]); omega) | (unfold NBQ; (try simp only [Ks1]); omega) | omega | (have zz_ := fz_z (by assumption); omega) | (split <;> omega) | done))
      · refine ⟨(by (try simp only [pre_X14_dots_t, Ks1]); (all_goals (repeat' (first | with_reducible intro _ | with_reducible apply And.intro | with_reducible refine Exists.intro g ?_ | with_reducible refine Im.and ?_ ?_))); all_goals (first | assumption | trivial | ((with_reducible refine Im.i fun hf_ => ?_); first | exact (A1 hf_) | exact (Gu4 hf_) | exact (Ku3 hf_) | exact (Ou1 hf_).cst | exact (Lu2 hf_) | exact ok1.i | (exact LI.z (fun h => absurd h (by decide))) | (exact absurd hf_ (by omega)) | omega) | (unfold NBP; (try simp only [Ks1]); omega) | (unfold NBQ; (try simp only [Ks1]); omega) | omega | (have zz_ := fz_z (by assumption); omega) | (split <;> omega) | done)), ?_⟩
        intro s41 Ws41 e41_0 e41_1 e41_2 e41_3 e41_4 e41_5 e41_6 e41_7 e41_8 e41_9 e41_10 e41_11 e41_12 e41_13 e41_14 e41_15 e41_16 e41_17 e41_18 e41_19 e41_20 q41
        unfold post_X14_dots_t at q41
        obtain ⟨q41_1, q41_2, q41_3, q41_4, q41_5, q41_6⟩ := q41
        (try simp only [Ks1, NBP, NBQ] at q41_1 q41_2 q41_3 q41_4 q41_5 q41_6 e41_0 e41_1 e41_2 e41_3 e41_4 e41_5 e41_6 e41_7 e41_8 e41_9 e41_10 e41_11 e41_12 e41_13 e41_14 e41_15 e41_16 e41_17 e41_18 e41_19 e41_20)
        have Ks41 : rR s41 7 = rR σ 7 := by first | assumption | ((try simp only [rR_sF, rR_sA, rR_sT, rR_sL] at e41_0 e41_1 e41_2 e41_3 e41_4 e41_5 e41_6 e41_7 e41_8 e41_9 e41_10 e41_11 e41_12 e41_13 e41_14 e41_15 e41_16 e41_17 e41_18 e41_19 e41_20); omega)
        have zr41 := fz_rng s41
        have zc41 : fz s41 = 0 → fz s1 = 0 := fun hf => by omega
        have A41 : Im (fz s41 = 0) (RG σ s41 (rR σ 7) x1) := fun hf => RG.trk hp_2 (A1 (zc41 hf)) (q41_4 (by omega)) (by omega)
        have Ou103 : Im (fz s41 = 0) _ := fun hf => OP.gk0 (Ou1 (zc41 hf)) (GK.up (g := g) (N := rF s1 (rR σ 7) 7) (N' := rF s41 (rR σ 7) 7) (c := 0) (by first | assumption | omega | (simp only [rF_sT, rF_sA]; omega)))
        have Lu104 : Im (fz s41 = 0) _ := fun hf => LI.gk0 hp_2 (Lu2 (zc41 hf)) (Ou1 (zc41 hf)) (q41_4 (by omega)) (GK.up (g := g) (N := rF s1 (rR σ 7) 7) (N' := rF s41 (rR σ 7) 7) (c := 0) (by first | assumption | omega | (simp only [rF_sT, rF_sA]; omega)))
        have Ku105 : Im (fz s41 = 0) (GK g g (rF σ (rR σ 7) 7) (rF s41 (rR σ 7) 7) x1) := fun hf => GK.trans (Ku3 (zc41 hf)) (GK.up (N := rF s1 (rR σ 7) 7) (N' := rF s41 (rR σ 7) 7) (c := 0) (by first | assumption | omega | (simp only [rF_sT, rF_sA]; omega))) (Or.inr (Or.inl rfl))
        have Gu106 : Im (fz s41 = 0) (GS s41 (rR σ 7) g) := fun hf => GS.c3 hp_2 (Gu4 (zc41 hf)) (Ou1 (zc41 hf)) hp_12 (q41_4 (by omega)) (q41_6 (by omega))
        have rNMp_41 := e41_0 rNMp_1; clear e41_0
        have TPRp_41 := e41_1 TPRp_1; clear e41_1
        have WNp_41 := e41_2 WNp_1; clear e41_2
        have PNp_41 := e41_3 PNp_1; clear e41_3
        have CCp_41 := e41_4 CCp_1; clear e41_4
        exact (by (try simp only [post_X14_readArgs, Ks41]); (all_goals (repeat' (first | with_reducible intro _ | with_reducible apply And.intro | with_reducible refine Exists.intro g ?_ | with_reducible refine Im.and ?_ ?_))); all_goals (first | assumption | trivial | ((with_reducible refine Im.i fun hf_ => ?_); first | exact (A41 hf_) | exact (Gu106 hf_) | exact (Ku105 hf_) | exact (Ou103 hf_).cst | exact (Lu104 hf_) | exact ok1.i | (exact LI.z (fun h => absurd h (by decide))) | (exact absurd hf_ (by omega)) | omega) | (unfold NBP; (try simp only [Ks41]); omega) | (unfold NBQ; (try simp only [Ks41]); omega) | omega | (have zz_ := fz_z (by assumption); omega) | (split <;> omega) | done))
    · intro hr_; unfold rng at hr_
      refine ⟨(by (try simp only [rng, Ks1]); (all_goals (repeat' (first | with_reducible intro _ | with_reducible apply And.intro | with_reducible refine Exists.intro g ?_ | with_reducible refine Im.and ?_ ?_))); all_goals (first | assumption | trivial | ((with_reducible refine Im.i fun hf_ => ?_); first | exact (A1 hf_) | exact (Gu4 hf_) | exact (Ku3 hf_) | exact (Ou1 hf_).cst | exact (Lu2 hf_) | exact ok1.i | (exact LI.z (fun h => absurd h (by decide))) | (exact absurd hf_ (by omega)) | omega) | (unfold NBP; (try simp only [Ks1]); omega) | (unfold NBQ; (try simp only [Ks1]); omega) | omega | (have zz_ := fz_z (by assumption); omega) | (split <;> omega) | done)), ?_⟩
      exact (by (try simp only [post_X14_readArgs, reduceIte, and_true, true_and, and_false, false_and, and_self, Nat.reduceEqDiff, fz_sF29, rF_sF, rA_sF, rR_sF, tr_sF, rNMp_sF, PNp_sF, GS_F29, OP_F29, NR_F29, LI_F29, RG_l29, RG_r29, TPRp_sF29, WNp_sF29, VMp_sF29, KYp_sF29, PPp_sF29, WFp_sF29, CCp_sF29, rk_n0 hp_2, Ks1]); (all_goals (repeat' (first | with_reducible intro _ | with_reducible apply And.intro | with_reducible refine Exists.intro g ?_ | with_reducible refine Im.and ?_ ?_))); all_goals (first | assumption | trivial | ((with_reducible refine Im.i fun hf_ => ?_); first | exact (A1 hf_) | exact (Gu4 hf_) | exact (Ku3 hf_) | exact (Ou1 hf_).cst | exact (Lu2 hf_) | exact ok1.i | (exact LI.z (fun h => absurd h (by decide))) | (exact absurd hf_ (by omega)) | omega) | (unfold NBP; (try simp only [reduceIte, and_true, true_and, and_false, false_and, and_self, Nat.reduceEqDiff, fz_sF29, rF_sF, rA_sF, rR_sF, tr_sF, rNMp_sF, PNp_sF, GS_F29, OP_F29, NR_F29, LI_F29, RG_l29, RG_r29, TPRp_sF29, WNp_sF29, VMp_sF29, KYp_sF29, PPp_sF29, WFp_sF29, CCp_sF29, rk_n0 hp_2, Ks1]); omega) | (unfold NBQ; (try simp only [reduceIte, and_true, true_and, and_false, false_and, and_self, Nat.reduceEqDiff, fz_sF29, rF_sF, rA_sF, rR_sF, tr_sF, rNMp_sF, PNp_sF, GS_F29, OP_F29, NR_F29, LI_F29, RG_l29, RG_r29, TPRp_sF29, WNp_sF29, VMp_sF29, KYp_sF29, PPp_sF29, WFp_sF29, CCp_sF29, rk_n0 hp_2, Ks1]); omega) | omega | (have zz_ := fz_z (by assumption); omega) | (split <;> omega) | done))
  · have z8 := fz_n c8
    exact (by (try simp only [post_X14_readArgs, Ks1]); (all_goals (repeat' (first | with_reducible intro _ | with_reducible apply And.intro | with_reducible refine Exists.intro g ?_ | with_reducible refine Im.and ?_ ?_))); all_goals (first | assumption | trivial | ((with_reducible refine Im.i fun hf_ => ?_); first | exact (A1 hf_) | exact (Gu4 hf_) | exact (Ku3 hf_) | exact (Ou1 hf_).cst | exact (Lu2 hf_) | exact ok1.i | (exact LI.z (fun h => absurd h (by decide))) | (exact absurd hf_ (by omega)) | omega) | (unfold NBP; (try simp only [Ks1]); omega) | (unfold NBQ; (try simp only [Ks1]); omega) | omega | (have zz_ := fz_z (by assumption); omega) | (split <;> omega) | done))
set_option maxHeartbeats 20000000 in
theorem vX14_readArgs_55 (n : Nat) (σ : rS) (x1 : Int) (gg : Nat) (g : Nat → Int → Int) (K : Nat) (hwf : rWF σ) (hx1 : rng x1) (hp : pre_X14_readArgs σ x1 gg g K) (hr : rk_X14_readArgs σ x1 gg g K ≤ n + 1) : VC_X14_readArgs_55 n σ x1 gg g K (post_X14_readArgs σ x1 gg g K) := by
  unfold pre_X14_readArgs at hp
  obtain ⟨hp_1, hp_2, hp_3, hp_4, hp_5, hp_6, hp_7, hp_8, hp_9, hp_10, hp_11, hp_12, hp_13, hp_14⟩ := hp
  unfold rng at hx1
  subst hp_1
  unfold rk_X14_readArgs at hr
  have hN := hp_4
  unfold NBP at hN
  have hC := hp_3
  unfold CCp at hC
  obtain ⟨hC1, hC⟩ := hC
  have zr0 := fz_rng σ
  have hr2 : fz σ = 0 → 16 * (21 - rF σ 0 31).toNat + 3 ≤ n + 1 := fun h => by rw [if_pos h] at hr; exact hr
  have hr3 : 3 ≤ n + 1 := by have := hr; split at this <;> omega
  clear hr
  unfold VC_X14_readArgs_55
  intro s55 y55_2 y55_3 y55_4 Ws55 hy55_2 hy55_3 hy55_4 e55_0 e55_1 e55_2 e55_3 e55_4 e55_5 e55_6 e55_7 e55_8 e55_9 I55
  have Ks55 : rR s55 7 = rR σ 7 := by omega
  unfold inv_X14_readArgs_55 at I55
  obtain ⟨I55_1, I55_2, I55_3, I55_4, I55_5, I55_6, I55_7, I55_8, I55_9, I55_10, I55_11, I55_12, I55_13⟩ := I55
  (try simp only [Ks55, NBP, NBQ] at I55_1 I55_2 I55_3 I55_4 I55_5 I55_6 I55_7 I55_8 I55_9 I55_10 I55_11 I55_12 I55_13)
  have zr55 := fz_rng s55
  have TPRp_55 := e55_0 hC1; clear e55_0
  have CCp_55 := e55_1 hp_3; clear e55_1
  obtain ⟨g55, X55⟩ := I55_13
  have G55 : Im (fz s55 = 0) _ := fun hf => (X55 hf).1
  have KA55 : Im (fz s55 = 0) _ := fun hf => (X55 hf).2.1
  have O55 : Im (fz s55 = 0) _ := fun hf => (X55 hf).2.2.1
  have L55 : Im (fz s55 = 0) _ := fun hf => (X55 hf).2.2.2.1
  refine ⟨fun c57 => ?_, fun c57 => ?_⟩
  · refine ⟨(by (try simp only [pre_X14_need, Ks55]); (all_goals (repeat' (first | with_reducible intro _ | with_reducible apply And.intro | with_reducible refine Exists.intro g55 ?_ | with_reducible refine Im.and ?_ ?_))); all_goals (first | assumption | trivial | ((with_reducible refine Im.i fun hf_ => ?_); first | exact (I55_12 hf_) | exact (G55 hf_) | exact (KA55 hf_) | exact (O55 hf_).cst | exact (L55 hf_) | exact ok1.i | (exact LI.z (fun h => absurd h (by decide))) | (exact absurd hf_ (by omega)) | omega) | (unfold NBP; (try simp only [Ks55]); omega) | (unfold NBQ; (try simp only [Ks55]); omega) | omega | (have zz_ := fz_z (by assumption); omega) | (split <;> omega) | done)), ?_⟩
    intro s195 Ws195 e195_0 e195_1 e195_2 e195_3 e195_4 e195_5 e195_6 e195_7 e195_8 e195_9 e195_10 e195_11 e195_12 e195_13 e195_14 e195_15 e195_16 e195_17 e195_18 e195_19 e195_20 R195 q195
    have q195 := dig_need q195 (by (try simp only [Ks55]); omega)
    obtain ⟨q195_1, q195_2, q195_3, q195_4⟩ := q195
    (try simp only [Ks55, NBP, NBQ] at q195_1 q195_2 q195_3 q195_4 e195_0 e195_1 e195_2 e195_3 e195_4 e195_5 e195_6 e195_7 e195_8 e195_9 e195_10 e195_11 e195_12 e195_13 e195_14 e195_15 e195_16 e195_17 e195_18 e195_19 e195_20 R195)
    have Ks195 : rR s195 7 = rR σ 7 := by first | assumption | ((try simp only [rR_sF, rR_sA, rR_sT, rR_sL] at e195_0 e195_1 e195_2 e195_3 e195_4 e195_5 e195_6 e195_7 e195_8 e195_9 e195_10 e195_11 e195_12 e195_13 e195_14 e195_15 e195_16 e195_17 e195_18 e195_19 e195_20 R195); omega)
    have zr195 := fz_rng s195
    have zc195 : fz s195 = 0 → fz s55 = 0 := fun hf => by omega
    have A195 : Im (fz s195 = 0) (RG σ s195 (rR σ 7) x1) := fun hf => RG.trk hp_2 (I55_12 (zc195 hf)) R195 (Or.inr (Or.inl rfl))
    have Ou5 : Im (fz s195 = 0) _ := fun hf => OP.gk0 (O55 (zc195 hf)) (GK.up (g := g55) (N := rF s55 (rR σ 7) 7) (N' := rF s195 (rR σ 7) 7) (c := 0) (by first | assumption | omega | (simp only [rF_sT, rF_sA]; omega)))
    have Lu6 : Im (fz s195 = 0) _ := fun hf => LI.gk0 hp_2 (L55 (zc195 hf)) (O55 (zc195 hf)) R195 (GK.up (g := g55) (N := rF s55 (rR σ 7) 7) (N' := rF s195 (rR σ 7) 7) (c := 0) (by first | assumption | omega | (simp only [rF_sT, rF_sA]; omega)))
    have Ku7 : Im (fz s195 = 0) (GK g g55 (rF σ (rR σ 7) 7) (rF s195 (rR σ 7) 7) x1) := fun hf => GK.trans (KA55 (zc195 hf)) (GK.up (N := rF s55 (rR σ 7) 7) (N' := rF s195 (rR σ 7) 7) (c := 0) (by first | assumption | omega | (simp only [rF_sT, rF_sA]; omega))) (Or.inr (Or.inl rfl))
    have Gu8 : Im (fz s195 = 0) (GS s195 (rR σ 7) g55) := fun hf => GS.mv hp_2 (G55 (zc195 hf)) R195 (by first | assumption | omega | (simp only [rF_sT, rF_sA]; omega)) (by first | (exact Int.le_of_eq (Eq.symm (by assumption))) | omega | (simp only [rF_sT, rF_sA]; omega))
    have rNMp_195 := e195_0 I55_3; clear e195_0
    have TPRp_195 := e195_1 TPRp_55; clear e195_1
    have WNp_195 := e195_2 I55_4; clear e195_2
    have PNp_195 := e195_3 I55_5; clear e195_3
    have CCp_195 := e195_4 CCp_55; clear e195_4
    exact (by (try simp only [post_X14_readArgs, Ks195]); (all_goals (repeat' (first | with_reducible intro _ | with_reducible apply And.intro | with_reducible refine Exists.intro g55 ?_ | with_reducible refine Im.and ?_ ?_))); all_goals (first | assumption | trivial | ((with_reducible refine Im.i fun hf_ => ?_); first | exact (A195 hf_) | exact (Gu8 hf_) | exact (Ku7 hf_) | exact (Ou5 hf_).cst | exact (Lu6 hf_) | exact ok1.i | (exact LI.z (fun h => absurd h (by decide))) | (exact absurd hf_ (by omega)) | omega) | (unfold NBP; (try simp only [Ks195]); omega) | (unfold NBQ; (try simp only [Ks195]); omega) | omega | (have zz_ := fz_z (by assumption); omega) | (split <;> omega) | done))
  · intro hr_; unfold rng at hr_
    refine ⟨fun c64 => ?_, fun c64 => ?_⟩
    · have z64 := fz_n c64
      refine ⟨(by (try simp only [pre_X14_need, Ks55]); (all_goals (repeat' (first | with_reducible intro _ | with_reducible apply And.intro | with_reducible refine Exists.intro g55 ?_ | with_reducible refine Im.and ?_ ?_))); all_goals (first | assumption | trivial | ((with_reducible refine Im.i fun hf_ => ?_); first | exact (I55_12 hf_) | exact (G55 hf_) | exact (KA55 hf_) | exact (O55 hf_).cst | exact (L55 hf_) | exact ok1.i | (exact LI.z (fun h => absurd h (by decide))) | (exact absurd hf_ (by omega)) | omega) | (unfold NBP; (try simp only [Ks55]); omega) | (unfold NBQ; (try simp only [Ks55]); omega) | omega | (have zz_ := fz_z (by assumption); omega) | (split <;> omega) | done)), ?_⟩
      intro s195 Ws195 e195_0 e195_1 e195_2 e195_3 e195_4 e195_5 e195_6 e195_7 e195_8 e195_9 e195_10 e195_11 e195_12 e195_13 e195_14 e195_15 e195_16 e195_17 e195_18 e195_19 e195_20 R195 q195
      have q195 := dig_need q195 (by (try simp only [Ks55]); omega)
      obtain ⟨q195_1, q195_2, q195_3, q195_4⟩ := q195
      (try simp only [Ks55, NBP, NBQ] at q195_1 q195_2 q195_3 q195_4 e195_0 e195_1 e195_2 e195_3 e195_4 e195_5 e195_6 e195_7 e195_8 e195_9 e195_10 e195_11 e195_12 e195_13 e195_14 e195_15 e195_16 e195_17 e195_18 e195_19 e195_20 R195)
      have Ks195 : rR s195 7 = rR σ 7 := by first | assumption | ((try simp only [rR_sF, rR_sA, rR_sT, rR_sL] at e195_0 e195_1 e195_2 e195_3 e195_4 e195_5 e195_6 e195_7 e195_8 e195_9 e195_10 e195_11 e195_12 e195_13 e195_14 e195_15 e195_16 e195_17 e195_18 e195_19 e195_20 R195); omega)
      have zr195 := fz_rng s195
      have zc195 : fz s195 = 0 → fz s55 = 0 := fun hf => by omega
      have A195 : Im (fz s195 = 0) (RG σ s195 (rR σ 7) x1) := fun hf => RG.trk hp_2 (I55_12 (zc195 hf)) R195 (Or.inr (Or.inl rfl))
      have Ou9 : Im (fz s195 = 0) _ := fun hf => OP.gk0 (O55 (zc195 hf)) (GK.up (g := g55) (N := rF s55 (rR σ 7) 7) (N' := rF s195 (rR σ 7) 7) (c := 0) (by first | assumption | omega | (simp only [rF_sT, rF_sA]; omega)))
      have Lu10 : Im (fz s195 = 0) _ := fun hf => LI.gk0 hp_2 (L55 (zc195 hf)) (O55 (zc195 hf)) R195 (GK.up (g := g55) (N := rF s55 (rR σ 7) 7) (N' := rF s195 (rR σ 7) 7) (c := 0) (by first | assumption | omega | (simp only [rF_sT, rF_sA]; omega)))
      have Ku11 : Im (fz s195 = 0) (GK g g55 (rF σ (rR σ 7) 7) (rF s195 (rR σ 7) 7) x1) := fun hf => GK.trans (KA55 (zc195 hf)) (GK.up (N := rF s55 (rR σ 7) 7) (N' := rF s195 (rR σ 7) 7) (c := 0) (by first | assumption | omega | (simp only [rF_sT, rF_sA]; omega))) (Or.inr (Or.inl rfl))
      have Gu12 : Im (fz s195 = 0) (GS s195 (rR σ 7) g55) := fun hf => GS.mv hp_2 (G55 (zc195 hf)) R195 (by first | assumption | omega | (simp only [rF_sT, rF_sA]; omega)) (by first | (exact Int.le_of_eq (Eq.symm (by assumption))) | omega | (simp only [rF_sT, rF_sA]; omega))
      have rNMp_195 := e195_0 I55_3; clear e195_0
      have TPRp_195 := e195_1 TPRp_55; clear e195_1
      have WNp_195 := e195_2 I55_4; clear e195_2
      have PNp_195 := e195_3 I55_5; clear e195_3
      have CCp_195 := e195_4 CCp_55; clear e195_4
      exact (by (try simp only [post_X14_readArgs, Ks195]); (all_goals (repeat' (first | with_reducible intro _ | with_reducible apply And.intro | with_reducible refine Exists.intro g55 ?_ | with_reducible refine Im.and ?_ ?_))); all_goals (first | assumption | trivial | ((with_reducible refine Im.i fun hf_ => ?_); first | exact (A195 hf_) | exact (Gu12 hf_) | exact (Ku11 hf_) | exact (Ou9 hf_).cst | exact (Lu10 hf_) | exact ok1.i | (exact LI.z (fun h => absurd h (by decide))) | (exact absurd hf_ (by omega)) | omega) | (unfold NBP; (try simp only [Ks195]); omega) | (unfold NBQ; (try simp only [Ks195]); omega) | omega | (have zz_ := fz_z (by assumption); omega) | (split <;> omega) | done))
    · have z64 := fz_z c64
      refine ⟨fun c68 => ?_, fun c68 => ?_⟩
      · refine ⟨g55, ?_⟩
        refine ⟨(by (try simp only [pre_X14_readArg, Ks55]); (all_goals (repeat' (first | with_reducible intro _ | with_reducible apply And.intro | with_reducible refine Exists.intro g55 ?_ | with_reducible refine Im.and ?_ ?_))); all_goals (first | assumption | trivial | ((with_reducible refine Im.i fun hf_ => ?_); first | exact (I55_12 hf_) | exact (G55 hf_) | exact (KA55 hf_) | exact (O55 hf_).cst | exact (L55 hf_) | exact ok1.i | (exact LI.z (fun h => absurd h (by decide))) | (exact absurd hf_ (by omega)) | omega) | (unfold NBP; (try simp only [Ks55]); omega) | (unfold NBQ; (try simp only [Ks55]); omega) | omega | (have zz_ := fz_z (by assumption); omega) | (split <;> omega) | done)), ?_⟩
        refine ⟨(by (try simp only [rk_X14_readArg, Ks55]); (all_goals (repeat' (first | with_reducible intro _ | with_reducible apply And.intro | with_reducible refine Exists.intro g55 ?_ | with_reducible refine Im.and ?_ ?_))); all_goals (first | assumption | trivial | ((with_reducible refine Im.i fun hf_ => ?_); first | exact (I55_12 hf_) | exact (G55 hf_) | exact (KA55 hf_) | exact (O55 hf_).cst | exact (L55 hf_) | exact ok1.i | (exact LI.z (fun h => absurd h (by decide))) | (exact absurd hf_ (by omega)) | omega) | (unfold NBP; (try simp only [Ks55]); omega) | (unfold NBQ; (try simp only [Ks55]); omega) | omega | (have zz_ := fz_z (by assumption); omega) | (split <;> omega) | done)), ?_⟩
        intro v83 s83 hv83 Ws83 e83_0 e83_1 e83_2 e83_3 e83_4 e83_5 e83_6 e83_7 e83_8 e83_9 q83
        unfold rng at hv83
        unfold post_X14_readArg at q83
        obtain ⟨q83_1, q83_2, q83_3, q83_4, q83_5, q83_6, q83_7, q83_8, q83_9⟩ := q83
        (try simp only [Ks55, NBP, NBQ] at q83_1 q83_2 q83_3 q83_4 q83_5 q83_6 q83_7 q83_8 q83_9 e83_0 e83_1 e83_2 e83_3 e83_4 e83_5 e83_6 e83_7 e83_8 e83_9)
        have Ks83 : rR s83 7 = rR σ 7 := by first | assumption | ((try simp only [rR_sF, rR_sA, rR_sT, rR_sL] at e83_0 e83_1 e83_2 e83_3 e83_4 e83_5 e83_6 e83_7 e83_8 e83_9); omega)
        have zr83 := fz_rng s83
        have zc83 : fz s83 = 0 → fz s55 = 0 := fun hf => by omega
        have A83 : Im (fz s83 = 0) (RG σ s83 (rR σ 7) x1) := fun hf => RG.trk hp_2 (I55_12 (zc83 hf)) (q83_8 (by omega)) (Or.inr (Or.inl rfl))
        obtain ⟨g83, X83⟩ := q83_9
        have Ou13 : Im (fz s83 = 0) _ := fun hf => OP.gk0 (O55 (zc83 hf)) ((X83 hf).2.1)
        have Lu14 : Im (fz s83 = 0) _ := fun hf => LI.gk0 hp_2 (L55 (zc83 hf)) (O55 (zc83 hf)) (q83_8 (by omega)) ((X83 hf).2.1)
        have Ku15 : Im (fz s83 = 0) (GK g g83 (rF σ (rR σ 7) 7) (rF s83 (rR σ 7) 7) x1) := fun hf => GK.trans (KA55 (zc83 hf)) ((X83 hf).2.1) (Or.inr (Or.inl rfl))
        have Gu16 : Im (fz s83 = 0) (GS s83 (rR σ 7) g83) := fun hf => (X83 hf).1
        have r83 : Im (fz s83 = 0) _ := fun hf => (X83 hf).2.2.1
        have TPRp_83 := e83_0 TPRp_55; clear e83_0
        have CCp_83 := e83_1 CCp_55; clear e83_1
        refine ⟨(by (try simp only [pre_X14_node_t, Ks83]); (all_goals (repeat' (first | with_reducible intro _ | with_reducible apply And.intro | with_reducible refine Exists.intro g83 ?_ | with_reducible refine Im.and ?_ ?_))); all_goals (first | assumption | trivial | ((with_reducible refine Im.i fun hf_ => ?_); first | exact (A83 hf_) | exact (Gu16 hf_) | exact (Ku15 hf_) | exact (Ou13 hf_).cst | exact (Lu14 hf_) | exact (r83 hf_).cst | exact ok1.i | (exact LI.z (fun h => absurd h (by decide))) | (exact absurd hf_ (by omega)) | omega) | (unfold NBP; (try simp only [Ks83]); omega) | (unfold NBQ; (try simp only [Ks83]); omega) | omega | (have zz_ := fz_z (by assumption); omega) | (split <;> omega) | done)), ?_⟩
        intro v88 s88 hv88 Ws88 e88_0 e88_1 e88_2 e88_3 e88_4 e88_5 e88_6 e88_7 e88_8 e88_9 e88_10 e88_11 e88_12 e88_13 e88_14 e88_15 e88_16 e88_17 e88_18 e88_19 e88_20 e88_21 q88
        unfold rng at hv88
        unfold post_X14_node_t at q88
        obtain ⟨q88_1, q88_2, q88_3, q88_4, q88_5, q88_6, q88_7, q88_8, q88_9, q88_10⟩ := q88
        (try simp only [Ks83, NBP, NBQ] at q88_1 q88_2 q88_3 q88_4 q88_5 q88_6 q88_7 q88_8 q88_9 q88_10 e88_0 e88_1 e88_2 e88_3 e88_4 e88_5 e88_6 e88_7 e88_8 e88_9 e88_10 e88_11 e88_12 e88_13 e88_14 e88_15 e88_16 e88_17 e88_18 e88_19 e88_20 e88_21)
        have Ks88 : rR s88 7 = rR σ 7 := by first | assumption | ((try simp only [rR_sF, rR_sA, rR_sT, rR_sL] at e88_0 e88_1 e88_2 e88_3 e88_4 e88_5 e88_6 e88_7 e88_8 e88_9 e88_10 e88_11 e88_12 e88_13 e88_14 e88_15 e88_16 e88_17 e88_18 e88_19 e88_20 e88_21); omega)
        have zr88 := fz_rng s88
        have zc88 : fz s88 = 0 → fz s83 = 0 := fun hf => by omega
        have A88 : Im (fz s88 = 0) (RG σ s88 (rR σ 7) x1) := fun hf => RG.trk hp_2 (A83 (zc88 hf)) q88_3 (Or.inr (Or.inl rfl))
        obtain ⟨g88, X88⟩ := EV_50 (P := fz s88 = 0) (rF s55 0 29) (rF s83 0 31) hp_2 (fun hf => Gu16 (zc88 hf)) (fun hf => r83 (zc88 hf)) (fun _ h => h) (fun hf => q88_3) q88_1 q88_2 q88_4 q88_5 q88_6 q88_9 (fun hf => by (try simp only [rF_sT, rF_sA]); (repeat' (with_reducible apply And.intro)) <;> first | trivial | omega)
        have Ou17 : Im (fz s88 = 0) _ := fun hf => OP.kv (Ou13 (zc88 hf)) (X88 hf).2.1 (X88 hf).2.2.2.2.1.1
        have Lu18 : Im (fz s88 = 0) _ := fun hf => LI.kv hp_2 (Lu14 (zc88 hf)) (Ou13 (zc88 hf)) q88_3 (X88 hf).2.1 ⟨(X88 hf).2.2.2.2.1.2, (X88 hf).2.2.2.2.1.1⟩
        have Ku19 : Im (fz s88 = 0) (GK g g88 (rF σ (rR σ 7) 7) (rF s88 (rR σ 7) 7) x1) := fun hf => GK.kv (Ku15 (zc88 hf)) (X88 hf).2.1 (by omega)
        have Gu20 : Im (fz s88 = 0) _ := fun hf => (X88 hf).1
        have O88 : Im (fz s88 = 0) _ := fun hf => (X88 hf).2.2.1
        have L88_1 : Im (fz s88 = 0) _ := fun hf => (X88 hf).2.2.2.1
        have rNMp_88 := e88_0 q83_2; clear e88_0
        have TPRp_88 := e88_1 TPRp_83; clear e88_1
        have WNp_88 := e88_2 q83_3; clear e88_2
        have CCp_88 := e88_3 CCp_83; clear e88_3
        intro hr_; unfold rng at hr_
        refine ⟨fun c97 => ?_, fun c97 => ?_⟩
        · have z97 := fz_z c97
          refine ⟨fun c102 => ?_, fun c102 => ?_⟩
          · refine ⟨(by (try simp only [Ks88]); (all_goals (repeat' (first | with_reducible intro _ | with_reducible apply And.intro | with_reducible refine Exists.intro g88 ?_ | with_reducible refine Im.and ?_ ?_))); all_goals (first | assumption | trivial | ((with_reducible refine Im.i fun hf_ => ?_); first | exact (A88 hf_) | exact (Gu20 hf_) | exact (Ku19 hf_) | exact (Ou17 hf_).cst | exact (Lu18 hf_) | exact (O88 hf_).cst | exact (L88_1 hf_) | exact ok1.i | (exact LI.z (fun h => absurd h (by decide))) | (exact absurd hf_ (by omega)) | omega) | (unfold NBP; (try simp only [Ks88]); omega) | (unfold NBQ; (try simp only [Ks88]); omega) | omega | (have zz_ := fz_z (by assumption); omega) | (split <;> omega) | done)), ?_⟩
            obtain ⟨gu21, Xu22⟩ := EC_50 (P := fz s88 = 0) (rF s83 0 29) Gu20 O88 (fun hf => by omega)
            have Ou23 : Im (fz s88 = 0) _ := fun hf => OP.kc (Ou17 hf) (Xu22 hf).2.2 (by omega)
            have Lu24 : Im (fz s88 = 0) _ := fun hf => LI.kc (Lu18 hf) (Xu22 hf).2.2
            have O88u25 : Im (fz s88 = 0) _ := fun hf => (Xu22 hf).2.1
            have Ku26 : Im (fz s88 = 0) (GK g gu21 (rF σ (rR σ 7) 7) (rF s88 (rR σ 7) 7) x1) := fun hf => GK.kc (Ku19 hf) (Xu22 hf).2.2 (by omega)
            have Gu27 : Im (fz s88 = 0) _ := fun hf => (Xu22 hf).1
            have A129 : Im (fz s88 = 0) (RG σ (sT s88 (rR σ 7) 5 y55_3 v88) (rR σ 7) x1) := fun hf => RG.tst (f := 5) (i := y55_3) (x := v88) hp_2 (A88 hf) (by decide) (by omega)
            obtain ⟨gs129, Xs129⟩ := EA_2_c (P := fz s88 = 0) hp_12 hp_2 Gu27 Ou23 Lu24 O88u25 (fun _ h => h) (fun hf => by omega)
            have Ku28 : Im (fz s88 = 0) (GK g gs129 (rF σ (rR σ 7) 7) (rF s88 (rR σ 7) 7) x1) := fun hf => GK.ks (Ku26 hf) (Xs129 hf).2.2.2.1 (by omega) (by omega)
            have Gu29 : Im (fz s88 = 0) _ := fun hf => (Xs129 hf).1
            have Ou30 : Im (fz s88 = 0) _ := fun hf => (Xs129 hf).2.1
            have Lu31 : Im (fz s88 = 0) _ := fun hf => (Xs129 hf).2.2.1
            refine ⟨(by (try simp only [pre_X14_blanks, reduceIte, and_true, true_and, and_false, false_and, and_self, Nat.reduceEqDiff, fz_sA, rF_sA, rA_sA, rR_sA, rF_sT, rR_sT, sT_sF, fz_sT, rA_sT26 hp_2, rA_sT27 hp_2, rA_sT34 hp_2, rA_sT35 hp_2, rA_sT36 hp_2, rA_sT37 hp_2, rA_sT40 hp_2, TPRp_sT hp_2, WNp_sT hp_2, VMp_sT hp_2, KYp_sT hp_2, PPp_sT hp_2, WFp_sT hp_2, CCp_sT hp_2, rNMp_sT5, PNp_sT5, rk_n0 hp_2, Ks88]); (all_goals (repeat' (first | with_reducible intro _ | with_reducible apply And.intro | with_reducible refine Exists.intro gs129 ?_ | with_reducible refine Im.and ?_ ?_))); all_goals (first | assumption | trivial | ((with_reducible refine Im.i fun hf_ => ?_); first | exact (A129 hf_) | exact (Gu29 hf_) | exact (Ku28 hf_) | exact (Ou30 hf_).cst | exact (Lu31 hf_) | exact ok1.i | (exact LI.z (fun h => absurd h (by decide))) | (exact absurd hf_ (by omega)) | omega) | (unfold NBP; (try simp only [reduceIte, and_true, true_and, and_false, false_and, and_self, Nat.reduceEqDiff, fz_sA, rF_sA, rA_sA, rR_sA, rF_sT, rR_sT, sT_sF, fz_sT, rA_sT26 hp_2, rA_sT27 hp_2, rA_sT34 hp_2, rA_sT35 hp_2, rA_sT36 hp_2, rA_sT37 hp_2, rA_sT40 hp_2, TPRp_sT hp_2, WNp_sT hp_2, VMp_sT hp_2, KYp_sT hp_2, PPp_sT hp_2, WFp_sT hp_2, CCp_sT hp_2, rNMp_sT5, PNp_sT5, rk_n0 hp_2, Ks88]); omega) | (unfold NBQ; (try simp only [reduceIte, and_true, true_and, and_false, false_and, and_self, Nat.reduceEqDiff, fz_sA, rF_sA, rA_sA, rR_sA, rF_sT, rR_sT, sT_sF, fz_sT, rA_sT26 hp_2, rA_sT27 hp_2, rA_sT34 hp_2, rA_sT35 hp_2, rA_sT36 hp_2, rA_sT37 hp_2, rA_sT40 hp_2, TPRp_sT hp_2, WNp_sT hp_2, VMp_sT hp_2, KYp_sT hp_2, PPp_sT hp_2, WFp_sT hp_2, CCp_sT hp_2, rNMp_sT5, PNp_sT5, rk_n0 hp_2, Ks88]); omega) | omega | (have zz_ := fz_z (by assumption); omega) | (split <;> omega) | done)), ?_⟩
            intro s134 Ws134 e134_0 e134_1 e134_2 e134_3 e134_4 e134_5 e134_6 e134_7 e134_8 e134_9 e134_10 e134_11 e134_12 e134_13 e134_14 e134_15 e134_16 e134_17 e134_18 e134_19 e134_20 e134_21 e134_22 R134 q134
            have q134 := dig_blanks q134 (by (try simp only [reduceIte, and_true, true_and, and_false, false_and, and_self, Nat.reduceEqDiff, fz_sA, rF_sA, rA_sA, rR_sA, rF_sT, rR_sT, sT_sF, fz_sT, rA_sT26 hp_2, rA_sT27 hp_2, rA_sT34 hp_2, rA_sT35 hp_2, rA_sT36 hp_2, rA_sT37 hp_2, rA_sT40 hp_2, TPRp_sT hp_2, WNp_sT hp_2, VMp_sT hp_2, KYp_sT hp_2, PPp_sT hp_2, WFp_sT hp_2, CCp_sT hp_2, rNMp_sT5, PNp_sT5, rk_n0 hp_2, Ks88]); omega)
            obtain ⟨q134_1, q134_2⟩ := q134
            (try simp only [reduceIte, and_true, true_and, and_false, false_and, and_self, Nat.reduceEqDiff, fz_sA, rF_sA, rA_sA, rR_sA, rF_sT, rR_sT, sT_sF, fz_sT, rA_sT26 hp_2, rA_sT27 hp_2, rA_sT34 hp_2, rA_sT35 hp_2, rA_sT36 hp_2, rA_sT37 hp_2, rA_sT40 hp_2, TPRp_sT hp_2, WNp_sT hp_2, VMp_sT hp_2, KYp_sT hp_2, PPp_sT hp_2, WFp_sT hp_2, CCp_sT hp_2, rNMp_sT5, PNp_sT5, rk_n0 hp_2, Ks88, NBP, NBQ] at q134_1 q134_2 e134_0 e134_1 e134_2 e134_3 e134_4 e134_5 e134_6 e134_7 e134_8 e134_9 e134_10 e134_11 e134_12 e134_13 e134_14 e134_15 e134_16 e134_17 e134_18 e134_19 e134_20 e134_21 e134_22 R134)
            have Ks134 : rR s134 7 = rR σ 7 := by first | assumption | ((try simp only [rR_sF, rR_sA, rR_sT, rR_sL] at e134_0 e134_1 e134_2 e134_3 e134_4 e134_5 e134_6 e134_7 e134_8 e134_9 e134_10 e134_11 e134_12 e134_13 e134_14 e134_15 e134_16 e134_17 e134_18 e134_19 e134_20 e134_21 e134_22 R134); omega)
            have zr134 := fz_rng s134
            have zc134 : fz s134 = 0 → fz s88 = 0 := fun hf => by omega
            have A134 : Im (fz s134 = 0) (RG σ s134 (rR σ 7) x1) := fun hf => RG.trk hp_2 (A129 (zc134 hf)) R134 (Or.inr (Or.inl rfl))
            have Ou32 : Im (fz s134 = 0) _ := fun hf => OP.gk0 (Ou30 (zc134 hf)) (GK.up (g := gs129) (N := rF (sT s88 (rR σ 7) 5 y55_3 v88) (rR σ 7) 7) (N' := rF s134 (rR σ 7) 7) (c := 0) (by first | assumption | omega | (simp only [rF_sT, rF_sA]; omega)))
            have Lu33 : Im (fz s134 = 0) _ := fun hf => LI.gk0 hp_2 (Lu31 (zc134 hf)) (Ou30 (zc134 hf)) R134 (GK.up (g := gs129) (N := rF (sT s88 (rR σ 7) 5 y55_3 v88) (rR σ 7) 7) (N' := rF s134 (rR σ 7) 7) (c := 0) (by first | assumption | omega | (simp only [rF_sT, rF_sA]; omega)))
            have Ku34 : Im (fz s134 = 0) (GK g gs129 (rF σ (rR σ 7) 7) (rF s134 (rR σ 7) 7) x1) := fun hf => GK.trans (Ku28 (zc134 hf)) (GK.up (N := rF (sT s88 (rR σ 7) 5 y55_3 v88) (rR σ 7) 7) (N' := rF s134 (rR σ 7) 7) (c := 0) (by first | assumption | omega | (simp only [rF_sT, rF_sA]; omega))) (Or.inr (Or.inl rfl))
            have Gu35 : Im (fz s134 = 0) (GS s134 (rR σ 7) gs129) := fun hf => GS.mv hp_2 (Gu29 (zc134 hf)) R134 (by first | assumption | omega | (simp only [rF_sT, rF_sA]; omega)) (by first | (exact Int.le_of_eq (Eq.symm (by assumption))) | omega | (simp only [rF_sT, rF_sA]; omega))
            have rNMp_134 := e134_0 rNMp_88; clear e134_0
            have TPRp_134 := e134_1 TPRp_88; clear e134_1
            have WNp_134 := e134_2 WNp_88; clear e134_2
            have PNp_134 := e134_3 q88_10; clear e134_3
            have CCp_134 := e134_4 CCp_88; clear e134_4
            refine ⟨(by (try simp only [pre_X14_here, Ks134]); (all_goals (repeat' (first | with_reducible intro _ | with_reducible apply And.intro | with_reducible refine Exists.intro gs129 ?_ | with_reducible refine Im.and ?_ ?_))); all_goals (first | assumption | trivial | ((with_reducible refine Im.i fun hf_ => ?_); first | exact (A134 hf_) | exact (Gu35 hf_) | exact (Ku34 hf_) | exact (Ou32 hf_).cst | exact (Lu33 hf_) | exact ok1.i | (exact LI.z (fun h => absurd h (by decide))) | (exact absurd hf_ (by omega)) | omega) | (unfold NBP; (try simp only [Ks134]); omega) | (unfold NBQ; (try simp only [Ks134]); omega) | omega | (have zz_ := fz_z (by assumption); omega) | (split <;> omega) | done)), ?_⟩
            intro v138 hv138 q138
            unfold rng at hv138
            unfold post_X14_here at q138
            obtain ⟨q138_1, q138_2⟩ := q138
            (try simp only [Ks134, NBP, NBQ] at q138_1 q138_2)
            refine ⟨fun c143 => ?_, fun c143 => ?_⟩
            · exact (by (try simp only [inv_X14_readArgs_55, mu_X14_readArgs_55, mu_X14_readArgs_55, Ks134]); (all_goals (repeat' (first | with_reducible intro _ | with_reducible apply And.intro | with_reducible refine Exists.intro gs129 ?_ | with_reducible refine Im.and ?_ ?_))); all_goals (first | assumption | trivial | ((with_reducible refine Im.i fun hf_ => ?_); first | exact (A134 hf_) | exact (Gu35 hf_) | exact (Ku34 hf_) | exact (Ou32 hf_).cst | exact (Lu33 hf_) | exact ok1.i | (exact LI.z (fun h => absurd h (by decide))) | (exact absurd hf_ (by omega)) | omega) | (unfold NBP; (try simp only [Ks134]); omega) | (unfold NBQ; (try simp only [Ks134]); omega) | omega | (have zz_ := fz_z (by assumption); omega) | (split <;> omega) | done))
            · intro hr_; unfold rng at hr_
              refine ⟨(by (try simp only [rng, Ks134]); (all_goals (repeat' (first | with_reducible intro _ | with_reducible apply And.intro | with_reducible refine Exists.intro gs129 ?_ | with_reducible refine Im.and ?_ ?_))); all_goals (first | assumption | trivial | ((with_reducible refine Im.i fun hf_ => ?_); first | exact (A134 hf_) | exact (Gu35 hf_) | exact (Ku34 hf_) | exact (Ou32 hf_).cst | exact (Lu33 hf_) | exact ok1.i | (exact LI.z (fun h => absurd h (by decide))) | (exact absurd hf_ (by omega)) | omega) | (unfold NBP; (try simp only [Ks134]); omega) | (unfold NBQ; (try simp only [Ks134]); omega) | omega | (have zz_ := fz_z (by assumption); omega) | (split <;> omega) | done)), ?_⟩
              refine ⟨(by (try simp only [pre_X14_blanks, reduceIte, and_true, true_and, and_false, false_and, and_self, Nat.reduceEqDiff, fz_sF29, rF_sF, rA_sF, rR_sF, tr_sF, rNMp_sF, PNp_sF, GS_F29, OP_F29, NR_F29, LI_F29, RG_l29, RG_r29, TPRp_sF29, WNp_sF29, VMp_sF29, KYp_sF29, PPp_sF29, WFp_sF29, CCp_sF29, rk_n0 hp_2, Ks134]); (all_goals (repeat' (first | with_reducible intro _ | with_reducible apply And.intro | with_reducible refine Exists.intro gs129 ?_ | with_reducible refine Im.and ?_ ?_))); all_goals (first | assumption | trivial | ((with_reducible refine Im.i fun hf_ => ?_); first | exact (A134 hf_) | exact (Gu35 hf_) | exact (Ku34 hf_) | exact (Ou32 hf_).cst | exact (Lu33 hf_) | exact ok1.i | (exact LI.z (fun h => absurd h (by decide))) | (exact absurd hf_ (by omega)) | omega) | (unfold NBP; (try simp only [reduceIte, and_true, true_and, and_false, false_and, and_self, Nat.reduceEqDiff, fz_sF29, rF_sF, rA_sF, rR_sF, tr_sF, rNMp_sF, PNp_sF, GS_F29, OP_F29, NR_F29, LI_F29, RG_l29, RG_r29, TPRp_sF29, WNp_sF29, VMp_sF29, KYp_sF29, PPp_sF29, WFp_sF29, CCp_sF29, rk_n0 hp_2, Ks134]); omega) | (unfold NBQ; (try simp only [reduceIte, and_true, true_and, and_false, false_and, and_self, Nat.reduceEqDiff, fz_sF29, rF_sF, rA_sF, rR_sF, tr_sF, rNMp_sF, PNp_sF, GS_F29, OP_F29, NR_F29, LI_F29, RG_l29, RG_r29, TPRp_sF29, WNp_sF29, VMp_sF29, KYp_sF29, PPp_sF29, WFp_sF29, CCp_sF29, rk_n0 hp_2, Ks134]); omega) | omega | (have zz_ := fz_z (by assumption); omega) | (split <;> omega) | done)), ?_⟩
              intro s169 Ws169 e169_0 e169_1 e169_2 e169_3 e169_4 e169_5 e169_6 e169_7 e169_8 e169_9 e169_10 e169_11 e169_12 e169_13 e169_14 e169_15 e169_16 e169_17 e169_18 e169_19 e169_20 e169_21 e169_22 R169 q169
              have q169 := dig_blanks q169 (by (try simp only [reduceIte, and_true, true_and, and_false, false_and, and_self, Nat.reduceEqDiff, fz_sF29, rF_sF, rA_sF, rR_sF, tr_sF, rNMp_sF, PNp_sF, GS_F29, OP_F29, NR_F29, LI_F29, RG_l29, RG_r29, TPRp_sF29, WNp_sF29, VMp_sF29, KYp_sF29, PPp_sF29, WFp_sF29, CCp_sF29, rk_n0 hp_2, Ks134]); omega)
              obtain ⟨q169_1, q169_2⟩ := q169
              (try simp only [reduceIte, and_true, true_and, and_false, false_and, and_self, Nat.reduceEqDiff, fz_sF29, rF_sF, rA_sF, rR_sF, tr_sF, rNMp_sF, PNp_sF, GS_F29, OP_F29, NR_F29, LI_F29, RG_l29, RG_r29, TPRp_sF29, WNp_sF29, VMp_sF29, KYp_sF29, PPp_sF29, WFp_sF29, CCp_sF29, rk_n0 hp_2, Ks134, NBP, NBQ] at q169_1 q169_2 e169_0 e169_1 e169_2 e169_3 e169_4 e169_5 e169_6 e169_7 e169_8 e169_9 e169_10 e169_11 e169_12 e169_13 e169_14 e169_15 e169_16 e169_17 e169_18 e169_19 e169_20 e169_21 e169_22 R169)
              have Ks169 : rR s169 7 = rR σ 7 := by first | assumption | ((try simp only [rR_sF, rR_sA, rR_sT, rR_sL] at e169_0 e169_1 e169_2 e169_3 e169_4 e169_5 e169_6 e169_7 e169_8 e169_9 e169_10 e169_11 e169_12 e169_13 e169_14 e169_15 e169_16 e169_17 e169_18 e169_19 e169_20 e169_21 e169_22 R169); omega)
              have zr169 := fz_rng s169
              have zc169 : fz s169 = 0 → fz s134 = 0 := fun hf => by omega
              have A169 : Im (fz s169 = 0) (RG σ s169 (rR σ 7) x1) := fun hf => RG.trk hp_2 (A134 (zc169 hf)) R169 (Or.inr (Or.inl rfl))
              have Ou36 : Im (fz s169 = 0) _ := fun hf => OP.gk0 (Ou32 (zc169 hf)) (GK.up (g := gs129) (N := rF s134 (rR σ 7) 7) (N' := rF s169 (rR σ 7) 7) (c := 0) (by first | assumption | omega | (simp only [rF_sT, rF_sA]; omega)))
              have Lu37 : Im (fz s169 = 0) _ := fun hf => LI.gk0 hp_2 (Lu33 (zc169 hf)) (Ou32 (zc169 hf)) R169 (GK.up (g := gs129) (N := rF s134 (rR σ 7) 7) (N' := rF s169 (rR σ 7) 7) (c := 0) (by first | assumption | omega | (simp only [rF_sT, rF_sA]; omega)))
              have Ku38 : Im (fz s169 = 0) (GK g gs129 (rF σ (rR σ 7) 7) (rF s169 (rR σ 7) 7) x1) := fun hf => GK.trans (Ku34 (zc169 hf)) (GK.up (N := rF s134 (rR σ 7) 7) (N' := rF s169 (rR σ 7) 7) (c := 0) (by first | assumption | omega | (simp only [rF_sT, rF_sA]; omega))) (Or.inr (Or.inl rfl))
              have Gu39 : Im (fz s169 = 0) (GS s169 (rR σ 7) gs129) := fun hf => GS.mv hp_2 (Gu35 (zc169 hf)) R169 (by first | assumption | omega | (simp only [rF_sT, rF_sA]; omega)) (by first | (exact Int.le_of_eq (Eq.symm (by assumption))) | omega | (simp only [rF_sT, rF_sA]; omega))
              have rNMp_169 := e169_0 rNMp_134; clear e169_0
              have TPRp_169 := e169_1 TPRp_134; clear e169_1
              have WNp_169 := e169_2 WNp_134; clear e169_2
              have PNp_169 := e169_3 PNp_134; clear e169_3
              have CCp_169 := e169_4 CCp_134; clear e169_4
              refine ⟨fun c173 => ?_, fun c173 => ?_⟩
              · exact (by (try simp only [inv_X14_readArgs_55, mu_X14_readArgs_55, mu_X14_readArgs_55, Ks169]); (all_goals (repeat' (first | with_reducible intro _ | with_reducible apply And.intro | with_reducible refine Exists.intro gs129 ?_ | with_reducible refine Im.and ?_ ?_))); all_goals (first | assumption | trivial | ((with_reducible refine Im.i fun hf_ => ?_); first | exact (A169 hf_) | exact (Gu39 hf_) | exact (Ku38 hf_) | exact (Ou36 hf_).cst | exact (Lu37 hf_) | exact ok1.i | (exact LI.z (fun h => absurd h (by decide))) | (exact absurd hf_ (by omega)) | omega) | (unfold NBP; (try simp only [Ks169]); omega) | (unfold NBQ; (try simp only [Ks169]); omega) | omega | (have zz_ := fz_z (by assumption); omega) | (split <;> omega) | done))
              · refine ⟨(by (try simp only [pre_X14_isDots, Ks169]); (all_goals (repeat' (first | with_reducible intro _ | with_reducible apply And.intro | with_reducible refine Exists.intro gs129 ?_ | with_reducible refine Im.and ?_ ?_))); all_goals (first | assumption | trivial | ((with_reducible refine Im.i fun hf_ => ?_); first | exact (A169 hf_) | exact (Gu39 hf_) | exact (Ku38 hf_) | exact (Ou36 hf_).cst | exact (Lu37 hf_) | exact ok1.i | (exact LI.z (fun h => absurd h (by decide))) | (exact absurd hf_ (by omega)) | omega) | (unfold NBP; (try simp only [Ks169]); omega) | (unfold NBQ; (try simp only [Ks169]); omega) | omega | (have zz_ := fz_z (by assumption); omega) | (split <;> omega) | done)), ?_⟩
                intro v177 hv177 q177
                unfold rng at hv177
                unfold post_X14_isDots at q177
                obtain ⟨q177_1, q177_2⟩ := q177
                (try simp only [Ks169, NBP, NBQ] at q177_1 q177_2)
                refine ⟨fun c180 => ?_, fun c180 => ?_⟩
                · exact (by (try simp only [inv_X14_readArgs_55, mu_X14_readArgs_55, mu_X14_readArgs_55, Ks169]); (all_goals (repeat' (first | with_reducible intro _ | with_reducible apply And.intro | with_reducible refine Exists.intro gs129 ?_ | with_reducible refine Im.and ?_ ?_))); all_goals (first | assumption | trivial | ((with_reducible refine Im.i fun hf_ => ?_); first | exact (A169 hf_) | exact (Gu39 hf_) | exact (Ku38 hf_) | exact (Ou36 hf_).cst | exact (Lu37 hf_) | exact ok1.i | (exact LI.z (fun h => absurd h (by decide))) | (exact absurd hf_ (by omega)) | omega) | (unfold NBP; (try simp only [Ks169]); omega) | (unfold NBQ; (try simp only [Ks169]); omega) | omega | (have zz_ := fz_z (by assumption); omega) | (split <;> omega) | done))
                · refine ⟨(by (try simp only [pre_X14_dots_t, Ks169]); (all_goals (repeat' (first | with_reducible intro _ | with_reducible apply And.intro | with_reducible refine Exists.intro gs129 ?_ | with_reducible refine Im.and ?_ ?_))); all_goals (first | assumption | trivial | ((with_reducible refine Im.i fun hf_ => ?_); first | exact (A169 hf_) | exact (Gu39 hf_) | exact (Ku38 hf_) | exact (Ou36 hf_).cst | exact (Lu37 hf_) | exact ok1.i | (exact LI.z (fun h => absurd h (by decide))) | (exact absurd hf_ (by omega)) | omega) | (unfold NBP; (try simp only [Ks169]); omega) | (unfold NBQ; (try simp only [Ks169]); omega) | omega | (have zz_ := fz_z (by assumption); omega) | (split <;> omega) | done)), ?_⟩
                  intro s185 Ws185 e185_0 e185_1 e185_2 e185_3 e185_4 e185_5 e185_6 e185_7 e185_8 e185_9 e185_10 e185_11 e185_12 e185_13 e185_14 e185_15 e185_16 e185_17 e185_18 e185_19 e185_20 q185
                  unfold post_X14_dots_t at q185
                  obtain ⟨q185_1, q185_2, q185_3, q185_4, q185_5, q185_6⟩ := q185
                  (try simp only [Ks169, NBP, NBQ] at q185_1 q185_2 q185_3 q185_4 q185_5 q185_6 e185_0 e185_1 e185_2 e185_3 e185_4 e185_5 e185_6 e185_7 e185_8 e185_9 e185_10 e185_11 e185_12 e185_13 e185_14 e185_15 e185_16 e185_17 e185_18 e185_19 e185_20)
                  have Ks185 : rR s185 7 = rR σ 7 := by first | assumption | ((try simp only [rR_sF, rR_sA, rR_sT, rR_sL] at e185_0 e185_1 e185_2 e185_3 e185_4 e185_5 e185_6 e185_7 e185_8 e185_9 e185_10 e185_11 e185_12 e185_13 e185_14 e185_15 e185_16 e185_17 e185_18 e185_19 e185_20); omega)
                  have zr185 := fz_rng s185
                  have zc185 : fz s185 = 0 → fz s169 = 0 := fun hf => by omega
                  have A185 : Im (fz s185 = 0) (RG σ s185 (rR σ 7) x1) := fun hf => RG.trk hp_2 (A169 (zc185 hf)) (q185_4 (by omega)) (by omega)
                  have Ou40 : Im (fz s185 = 0) _ := fun hf => OP.gk0 (Ou36 (zc185 hf)) (GK.up (g := gs129) (N := rF s169 (rR σ 7) 7) (N' := rF s185 (rR σ 7) 7) (c := 0) (by first | assumption | omega | (simp only [rF_sT, rF_sA]; omega)))
                  have Lu41 : Im (fz s185 = 0) _ := fun hf => LI.gk0 hp_2 (Lu37 (zc185 hf)) (Ou36 (zc185 hf)) (q185_4 (by omega)) (GK.up (g := gs129) (N := rF s169 (rR σ 7) 7) (N' := rF s185 (rR σ 7) 7) (c := 0) (by first | assumption | omega | (simp only [rF_sT, rF_sA]; omega)))
                  have Ku42 : Im (fz s185 = 0) (GK g gs129 (rF σ (rR σ 7) 7) (rF s185 (rR σ 7) 7) x1) := fun hf => GK.trans (Ku38 (zc185 hf)) (GK.up (N := rF s169 (rR σ 7) 7) (N' := rF s185 (rR σ 7) 7) (c := 0) (by first | assumption | omega | (simp only [rF_sT, rF_sA]; omega))) (Or.inr (Or.inl rfl))
                  have Gu43 : Im (fz s185 = 0) (GS s185 (rR σ 7) gs129) := fun hf => GS.c3 hp_2 (Gu39 (zc185 hf)) (Ou36 (zc185 hf)) hp_12 (q185_4 (by omega)) (q185_6 (by omega))
                  have rNMp_185 := e185_0 rNMp_169; clear e185_0
                  have TPRp_185 := e185_1 TPRp_169; clear e185_1
                  have WNp_185 := e185_2 WNp_169; clear e185_2
                  have PNp_185 := e185_3 PNp_169; clear e185_3
                  have CCp_185 := e185_4 CCp_169; clear e185_4
                  exact (by (try simp only [post_X14_readArgs, Ks185]); (all_goals (repeat' (first | with_reducible intro _ | with_reducible apply And.intro | with_reducible refine Exists.intro gs129 ?_ | with_reducible refine Im.and ?_ ?_))); all_goals (first | assumption | trivial | ((with_reducible refine Im.i fun hf_ => ?_); first | exact (A185 hf_) | exact (Gu43 hf_) | exact (Ku42 hf_) | exact (Ou40 hf_).cst | exact (Lu41 hf_) | exact ok1.i | (exact LI.z (fun h => absurd h (by decide))) | (exact absurd hf_ (by omega)) | omega) | (unfold NBP; (try simp only [Ks185]); omega) | (unfold NBQ; (try simp only [Ks185]); omega) | omega | (have zz_ := fz_z (by assumption); omega) | (split <;> omega) | done))
          · refine ⟨(by (try simp only [Ks88]); (all_goals (repeat' (first | with_reducible intro _ | with_reducible apply And.intro | with_reducible refine Exists.intro g88 ?_ | with_reducible refine Im.and ?_ ?_))); all_goals (first | assumption | trivial | ((with_reducible refine Im.i fun hf_ => ?_); first | exact (A88 hf_) | exact (Gu20 hf_) | exact (Ku19 hf_) | exact (Ou17 hf_).cst | exact (Lu18 hf_) | exact (O88 hf_).cst | exact (L88_1 hf_) | exact ok1.i | (exact LI.z (fun h => absurd h (by decide))) | (exact absurd hf_ (by omega)) | omega) | (unfold NBP; (try simp only [Ks88]); omega) | (unfold NBQ; (try simp only [Ks88]); omega) | omega | (have zz_ := fz_z (by assumption); omega) | (split <;> omega) | done)), ?_⟩
            obtain ⟨gu44, Xu45⟩ := EC_50 (P := fz s88 = 0) (rF s83 0 29) Gu20 O88 (fun hf => by omega)
            have Ou46 : Im (fz s88 = 0) _ := fun hf => OP.kc (Ou17 hf) (Xu45 hf).2.2 (by omega)
            have Lu47 : Im (fz s88 = 0) _ := fun hf => LI.kc (Lu18 hf) (Xu45 hf).2.2
            have O88u48 : Im (fz s88 = 0) _ := fun hf => (Xu45 hf).2.1
            have Ku49 : Im (fz s88 = 0) (GK g gu44 (rF σ (rR σ 7) 7) (rF s88 (rR σ 7) 7) x1) := fun hf => GK.kc (Ku19 hf) (Xu45 hf).2.2 (by omega)
            have Gu50 : Im (fz s88 = 0) _ := fun hf => (Xu45 hf).1
            have A115 : Im (fz s88 = 0) (RG σ (sT s88 (rR σ 7) 2 x1 v88) (rR σ 7) x1) := fun hf => RG.tst (f := 2) (i := x1) (x := v88) hp_2 (A88 hf) (by decide) (by omega)
            obtain ⟨gs115, Xs115⟩ := EH_2_c (P := fz s88 = 0) hp_12 hp_2 Gu50 Ou46 Lu47 O88u48 (fun _ h => h) (fun hf => by omega)
            have Ku51 : Im (fz s88 = 0) (GK g gs115 (rF σ (rR σ 7) 7) (rF s88 (rR σ 7) 7) x1) := fun hf => GK.ks (Ku49 hf) (Xs115 hf).2.2.2.1 (by omega) (by omega)
            have Gu52 : Im (fz s88 = 0) _ := fun hf => (Xs115 hf).1
            have Ou53 : Im (fz s88 = 0) _ := fun hf => (Xs115 hf).2.1
            have Lu54 : Im (fz s88 = 0) _ := fun hf => (Xs115 hf).2.2.1
            refine ⟨(by (try simp only [pre_X14_blanks, reduceIte, and_true, true_and, and_false, false_and, and_self, Nat.reduceEqDiff, fz_sA, rF_sA, rA_sA, rR_sA, rF_sT, rR_sT, sT_sF, fz_sT, rA_sT26 hp_2, rA_sT27 hp_2, rA_sT34 hp_2, rA_sT35 hp_2, rA_sT36 hp_2, rA_sT37 hp_2, rA_sT40 hp_2, TPRp_sT hp_2, WNp_sT hp_2, VMp_sT hp_2, KYp_sT hp_2, PPp_sT hp_2, WFp_sT hp_2, CCp_sT hp_2, rNMp_sT2, PNp_sT2, rk_n0 hp_2, Ks88]); (all_goals (repeat' (first | with_reducible intro _ | with_reducible apply And.intro | with_reducible refine Exists.intro gs115 ?_ | with_reducible refine Im.and ?_ ?_))); all_goals (first | assumption | trivial | ((with_reducible refine Im.i fun hf_ => ?_); first | exact (A115 hf_) | exact (Gu52 hf_) | exact (Ku51 hf_) | exact (Ou53 hf_).cst | exact (Lu54 hf_) | exact ok1.i | (exact LI.z (fun h => absurd h (by decide))) | (exact absurd hf_ (by omega)) | omega) | (unfold NBP; (try simp only [reduceIte, and_true, true_and, and_false, false_and, and_self, Nat.reduceEqDiff, fz_sA, rF_sA, rA_sA, rR_sA, rF_sT, rR_sT, sT_sF, fz_sT, rA_sT26 hp_2, rA_sT27 hp_2, rA_sT34 hp_2, rA_sT35 hp_2, rA_sT36 hp_2, rA_sT37 hp_2, rA_sT40 hp_2, TPRp_sT hp_2, WNp_sT hp_2, VMp_sT hp_2, KYp_sT hp_2, PPp_sT hp_2, WFp_sT hp_2, CCp_sT hp_2, rNMp_sT2, PNp_sT2, rk_n0 hp_2, Ks88]); omega) | (unfold NBQ; (try simp only [reduceIte, and_true, true_and, and_false, false_and, and_self, Nat.reduceEqDiff, fz_sA, rF_sA, rA_sA, rR_sA, rF_sT, rR_sT, sT_sF, fz_sT, rA_sT26 hp_2, rA_sT27 hp_2, rA_sT34 hp_2, rA_sT35 hp_2, rA_sT36 hp_2, rA_sT37 hp_2, rA_sT40 hp_2, TPRp_sT hp_2, WNp_sT hp_2, VMp_sT hp_2, KYp_sT hp_2, PPp_sT hp_2, WFp_sT hp_2, CCp_sT hp_2, rNMp_sT2, PNp_sT2, rk_n0 hp_2, Ks88]); omega) | omega | (have zz_ := fz_z (by assumption); omega) | (split <;> omega) | done)), ?_⟩
            intro s134 Ws134 e134_0 e134_1 e134_2 e134_3 e134_4 e134_5 e134_6 e134_7 e134_8 e134_9 e134_10 e134_11 e134_12 e134_13 e134_14 e134_15 e134_16 e134_17 e134_18 e134_19 e134_20 e134_21 e134_22 R134 q134
            have q134 := dig_blanks q134 (by (try simp only [reduceIte, and_true, true_and, and_false, false_and, and_self, Nat.reduceEqDiff, fz_sA, rF_sA, rA_sA, rR_sA, rF_sT, rR_sT, sT_sF, fz_sT, rA_sT26 hp_2, rA_sT27 hp_2, rA_sT34 hp_2, rA_sT35 hp_2, rA_sT36 hp_2, rA_sT37 hp_2, rA_sT40 hp_2, TPRp_sT hp_2, WNp_sT hp_2, VMp_sT hp_2, KYp_sT hp_2, PPp_sT hp_2, WFp_sT hp_2, CCp_sT hp_2, rNMp_sT2, PNp_sT2, rk_n0 hp_2, Ks88]); omega)
            obtain ⟨q134_1, q134_2⟩ := q134
            (try simp only [reduceIte, and_true, true_and, and_false, false_and, and_self, Nat.reduceEqDiff, fz_sA, rF_sA, rA_sA, rR_sA, rF_sT, rR_sT, sT_sF, fz_sT, rA_sT26 hp_2, rA_sT27 hp_2, rA_sT34 hp_2, rA_sT35 hp_2, rA_sT36 hp_2, rA_sT37 hp_2, rA_sT40 hp_2, TPRp_sT hp_2, WNp_sT hp_2, VMp_sT hp_2, KYp_sT hp_2, PPp_sT hp_2, WFp_sT hp_2, CCp_sT hp_2, rNMp_sT2, PNp_sT2, rk_n0 hp_2, Ks88, NBP, NBQ] at q134_1 q134_2 e134_0 e134_1 e134_2 e134_3 e134_4 e134_5 e134_6 e134_7 e134_8 e134_9 e134_10 e134_11 e134_12 e134_13 e134_14 e134_15 e134_16 e134_17 e134_18 e134_19 e134_20 e134_21 e134_22 R134)
            have Ks134 : rR s134 7 = rR σ 7 := by first | assumption | ((try simp only [rR_sF, rR_sA, rR_sT, rR_sL] at e134_0 e134_1 e134_2 e134_3 e134_4 e134_5 e134_6 e134_7 e134_8 e134_9 e134_10 e134_11 e134_12 e134_13 e134_14 e134_15 e134_16 e134_17 e134_18 e134_19 e134_20 e134_21 e134_22 R134); omega)
            have zr134 := fz_rng s134
            have zc134 : fz s134 = 0 → fz s88 = 0 := fun hf => by omega
            have A134 : Im (fz s134 = 0) (RG σ s134 (rR σ 7) x1) := fun hf => RG.trk hp_2 (A115 (zc134 hf)) R134 (Or.inr (Or.inl rfl))
            have Ou55 : Im (fz s134 = 0) _ := fun hf => OP.gk0 (Ou53 (zc134 hf)) (GK.up (g := gs115) (N := rF (sT s88 (rR σ 7) 2 x1 v88) (rR σ 7) 7) (N' := rF s134 (rR σ 7) 7) (c := 0) (by first | assumption | omega | (simp only [rF_sT, rF_sA]; omega)))
            have Lu56 : Im (fz s134 = 0) _ := fun hf => LI.gk0 hp_2 (Lu54 (zc134 hf)) (Ou53 (zc134 hf)) R134 (GK.up (g := gs115) (N := rF (sT s88 (rR σ 7) 2 x1 v88) (rR σ 7) 7) (N' := rF s134 (rR σ 7) 7) (c := 0) (by first | assumption | omega | (simp only [rF_sT, rF_sA]; omega)))
            have Ku57 : Im (fz s134 = 0) (GK g gs115 (rF σ (rR σ 7) 7) (rF s134 (rR σ 7) 7) x1) := fun hf => GK.trans (Ku51 (zc134 hf)) (GK.up (N := rF (sT s88 (rR σ 7) 2 x1 v88) (rR σ 7) 7) (N' := rF s134 (rR σ 7) 7) (c := 0) (by first | assumption | omega | (simp only [rF_sT, rF_sA]; omega))) (Or.inr (Or.inl rfl))
            have Gu58 : Im (fz s134 = 0) (GS s134 (rR σ 7) gs115) := fun hf => GS.mv hp_2 (Gu52 (zc134 hf)) R134 (by first | assumption | omega | (simp only [rF_sT, rF_sA]; omega)) (by first | (exact Int.le_of_eq (Eq.symm (by assumption))) | omega | (simp only [rF_sT, rF_sA]; omega))
            have rNMp_134 := e134_0 rNMp_88; clear e134_0
            have TPRp_134 := e134_1 TPRp_88; clear e134_1
            have WNp_134 := e134_2 WNp_88; clear e134_2
            have PNp_134 := e134_3 q88_10; clear e134_3
            have CCp_134 := e134_4 CCp_88; clear e134_4
            refine ⟨(by (try simp only [pre_X14_here, Ks134]); (all_goals (repeat' (first | with_reducible intro _ | with_reducible apply And.intro | with_reducible refine Exists.intro gs115 ?_ | with_reducible refine Im.and ?_ ?_))); all_goals (first | assumption | trivial | ((with_reducible refine Im.i fun hf_ => ?_); first | exact (A134 hf_) | exact (Gu58 hf_) | exact (Ku57 hf_) | exact (Ou55 hf_).cst | exact (Lu56 hf_) | exact ok1.i | (exact LI.z (fun h => absurd h (by decide))) | (exact absurd hf_ (by omega)) | omega) | (unfold NBP; (try simp only [Ks134]); omega) | (unfold NBQ; (try simp only [Ks134]); omega) | omega | (have zz_ := fz_z (by assumption); omega) | (split <;> omega) | done)), ?_⟩
            intro v138 hv138 q138
            unfold rng at hv138
            unfold post_X14_here at q138
            obtain ⟨q138_1, q138_2⟩ := q138
            (try simp only [Ks134, NBP, NBQ] at q138_1 q138_2)
            refine ⟨fun c143 => ?_, fun c143 => ?_⟩
            · exact (by (try simp only [inv_X14_readArgs_55, mu_X14_readArgs_55, mu_X14_readArgs_55, Ks134]); (all_goals (repeat' (first | with_reducible intro _ | with_reducible apply And.intro | with_reducible refine Exists.intro gs115 ?_ | with_reducible refine Im.and ?_ ?_))); all_goals (first | assumption | trivial | ((with_reducible refine Im.i fun hf_ => ?_); first | exact (A134 hf_) | exact (Gu58 hf_) | exact (Ku57 hf_) | exact (Ou55 hf_).cst | exact (Lu56 hf_) | exact ok1.i | (exact LI.z (fun h => absurd h (by decide))) | (exact absurd hf_ (by omega)) | omega) | (unfold NBP; (try simp only [Ks134]); omega) | (unfold NBQ; (try simp only [Ks134]); omega) | omega | (have zz_ := fz_z (by assumption); omega) | (split <;> omega) | done))
            · intro hr_; unfold rng at hr_
              refine ⟨(by (try simp only [rng, Ks134]); (all_goals (repeat' (first | with_reducible intro _ | with_reducible apply And.intro | with_reducible refine Exists.intro gs115 ?_ | with_reducible refine Im.and ?_ ?_))); all_goals (first | assumption | trivial | ((with_reducible refine Im.i fun hf_ => ?_); first | exact (A134 hf_) | exact (Gu58 hf_) | exact (Ku57 hf_) | exact (Ou55 hf_).cst | exact (Lu56 hf_) | exact ok1.i | (exact LI.z (fun h => absurd h (by decide))) | (exact absurd hf_ (by omega)) | omega) | (unfold NBP; (try simp only [Ks134]); omega) | (unfold NBQ; (try simp only [Ks134]); omega) | omega | (have zz_ := fz_z (by assumption); omega) | (split <;> omega) | done)), ?_⟩
              refine ⟨(by (try simp only [pre_X14_blanks, reduceIte, and_true, true_and, and_false, false_and, and_self, Nat.reduceEqDiff, fz_sF29, rF_sF, rA_sF, rR_sF, tr_sF, rNMp_sF, PNp_sF, GS_F29, OP_F29, NR_F29, LI_F29, RG_l29, RG_r29, TPRp_sF29, WNp_sF29, VMp_sF29, KYp_sF29, PPp_sF29, WFp_sF29, CCp_sF29, rk_n0 hp_2, Ks134]); (all_goals (repeat' (first | with_reducible intro _ | with_reducible apply And.intro | with_reducible refine Exists.intro gs115 ?_ | with_reducible refine Im.and ?_ ?_))); all_goals (first | assumption | trivial | ((with_reducible refine Im.i fun hf_ => ?_); first | exact (A134 hf_) | exact (Gu58 hf_) | exact (Ku57 hf_) | exact (Ou55 hf_).cst | exact (Lu56 hf_) | exact ok1.i | (exact LI.z (fun h => absurd h (by decide))) | (exact absurd hf_ (by omega)) | omega) | (unfold NBP; (try simp only [reduceIte, and_true, true_and, and_false, false_and, and_self, Nat.reduceEqDiff, fz_sF29, rF_sF, rA_sF, rR_sF, tr_sF, rNMp_sF, PNp_sF, GS_F29, OP_F29, NR_F29, LI_F29, RG_l29, RG_r29, TPRp_sF29, WNp_sF29, VMp_sF29, KYp_sF29, PPp_sF29, WFp_sF29, CCp_sF29, rk_n0 hp_2, Ks134]); omega) | (unfold NBQ; (try simp only [reduceIte, and_true, true_and, and_false, false_and, and_self, Nat.reduceEqDiff, fz_sF29, rF_sF, rA_sF, rR_sF, tr_sF, rNMp_sF, PNp_sF, GS_F29, OP_F29, NR_F29, LI_F29, RG_l29, RG_r29, TPRp_sF29, WNp_sF29, VMp_sF29, KYp_sF29, PPp_sF29, WFp_sF29, CCp_sF29, rk_n0 hp_2, Ks134]); omega) | omega | (have zz_ := fz_z (by assumption); omega) | (split <;> omega) | done)), ?_⟩
              intro s169 Ws169 e169_0 e169_1 e169_2 e169_3 e169_4 e169_5 e169_6 e169_7 e169_8 e169_9 e169_10 e169_11 e169_12 e169_13 e169_14 e169_15 e169_16 e169_17 e169_18 e169_19 e169_20 e169_21 e169_22 R169 q169
              have q169 := dig_blanks q169 (by (try simp only [reduceIte, and_true, true_and, and_false, false_and, and_self, Nat.reduceEqDiff, fz_sF29, rF_sF, rA_sF, rR_sF, tr_sF, rNMp_sF, PNp_sF, GS_F29, OP_F29, NR_F29, LI_F29, RG_l29, RG_r29, TPRp_sF29, WNp_sF29, VMp_sF29, KYp_sF29, PPp_sF29, WFp_sF29, CCp_sF29, rk_n0 hp_2, Ks134]); omega)
              obtain ⟨q169_1, q169_2⟩ := q169
              (try simp only [reduceIte, and_true, true_and, and_false, false_and, and_self, Nat.reduceEqDiff, fz_sF29, rF_sF, rA_sF, rR_sF, tr_sF, rNMp_sF, PNp_sF, GS_F29, OP_F29, NR_F29, LI_F29, RG_l29, RG_r29, TPRp_sF29, WNp_sF29, VMp_sF29, KYp_sF29, PPp_sF29, WFp_sF29, CCp_sF29, rk_n0 hp_2, Ks134, NBP, NBQ] at q169_1 q169_2 e169_0 e169_1 e169_2 e169_3 e169_4 e169_5 e169_6 e169_7 e169_8 e169_9 e169_10 e169_11 e169_12 e169_13 e169_14 e169_15 e169_16 e169_17 e169_18 e169_19 e169_20 e169_21 e169_22 R169)
              have Ks169 : rR s169 7 = rR σ 7 := by first | assumption | ((try simp only [rR_sF, rR_sA, rR_sT, rR_sL] at e169_0 e169_1 e169_2 e169_3 e169_4 e169_5 e169_6 e169_7 e169_8 e169_9 e169_10 e169_11 e169_12 e169_13 e169_14 e169_15 e169_16 e169_17 e169_18 e169_19 e169_20 e169_21 e169_22 R169); omega)
              have zr169 := fz_rng s169
              have zc169 : fz s169 = 0 → fz s134 = 0 := fun hf => by omega
              have A169 : Im (fz s169 = 0) (RG σ s169 (rR σ 7) x1) := fun hf => RG.trk hp_2 (A134 (zc169 hf)) R169 (Or.inr (Or.inl rfl))
              have Ou59 : Im (fz s169 = 0) _ := fun hf => OP.gk0 (Ou55 (zc169 hf)) (GK.up (g := gs115) (N := rF s134 (rR σ 7) 7) (N' := rF s169 (rR σ 7) 7) (c := 0) (by first | assumption | omega | (simp only [rF_sT, rF_sA]; omega)))
              have Lu60 : Im (fz s169 = 0) _ := fun hf => LI.gk0 hp_2 (Lu56 (zc169 hf)) (Ou55 (zc169 hf)) R169 (GK.up (g := gs115) (N := rF s134 (rR σ 7) 7) (N' := rF s169 (rR σ 7) 7) (c := 0) (by first | assumption | omega | (simp only [rF_sT, rF_sA]; omega)))
              have Ku61 : Im (fz s169 = 0) (GK g gs115 (rF σ (rR σ 7) 7) (rF s169 (rR σ 7) 7) x1) := fun hf => GK.trans (Ku57 (zc169 hf)) (GK.up (N := rF s134 (rR σ 7) 7) (N' := rF s169 (rR σ 7) 7) (c := 0) (by first | assumption | omega | (simp only [rF_sT, rF_sA]; omega))) (Or.inr (Or.inl rfl))
              have Gu62 : Im (fz s169 = 0) (GS s169 (rR σ 7) gs115) := fun hf => GS.mv hp_2 (Gu58 (zc169 hf)) R169 (by first | assumption | omega | (simp only [rF_sT, rF_sA]; omega)) (by first | (exact Int.le_of_eq (Eq.symm (by assumption))) | omega | (simp only [rF_sT, rF_sA]; omega))
              have rNMp_169 := e169_0 rNMp_134; clear e169_0
              have TPRp_169 := e169_1 TPRp_134; clear e169_1
              have WNp_169 := e169_2 WNp_134; clear e169_2
              have PNp_169 := e169_3 PNp_134; clear e169_3
              have CCp_169 := e169_4 CCp_134; clear e169_4
              refine ⟨fun c173 => ?_, fun c173 => ?_⟩
              · exact (by (try simp only [inv_X14_readArgs_55, mu_X14_readArgs_55, mu_X14_readArgs_55, Ks169]); (all_goals (repeat' (first | with_reducible intro _ | with_reducible apply And.intro | with_reducible refine Exists.intro gs115 ?_ | with_reducible refine Im.and ?_ ?_))); all_goals (first | assumption | trivial | ((with_reducible refine Im.i fun hf_ => ?_); first | exact (A169 hf_) | exact (Gu62 hf_) | exact (Ku61 hf_) | exact (Ou59 hf_).cst | exact (Lu60 hf_) | exact ok1.i | (exact LI.z (fun h => absurd h (by decide))) | (exact absurd hf_ (by omega)) | omega) | (unfold NBP; (try simp only [Ks169]); omega) | (unfold NBQ; (try simp only [Ks169]); omega) | omega | (have zz_ := fz_z (by assumption); omega) | (split <;> omega) | done))
              · refine ⟨(by (try simp only [pre_X14_isDots, Ks169]); (all_goals (repeat' (first | with_reducible intro _ | with_reducible apply And.intro | with_reducible refine Exists.intro gs115 ?_ | with_reducible refine Im.and ?_ ?_))); all_goals (first | assumption | trivial | ((with_reducible refine Im.i fun hf_ => ?_); first | exact (A169 hf_) | exact (Gu62 hf_) | exact (Ku61 hf_) | exact (Ou59 hf_).cst | exact (Lu60 hf_) | exact ok1.i | (exact LI.z (fun h => absurd h (by decide))) | (exact absurd hf_ (by omega)) | omega) | (unfold NBP; (try simp only [Ks169]); omega) | (unfold NBQ; (try simp only [Ks169]); omega) | omega | (have zz_ := fz_z (by assumption); omega) | (split <;> omega) | done)), ?_⟩
                intro v177 hv177 q177
                unfold rng at hv177
                unfold post_X14_isDots at q177
                obtain ⟨q177_1, q177_2⟩ := q177
                (try simp only [Ks169, NBP, NBQ] at q177_1 q177_2)
                refine ⟨fun c180 => ?_, fun c180 => ?_⟩
                · exact (by (try simp only [inv_X14_readArgs_55, mu_X14_readArgs_55, mu_X14_readArgs_55, Ks169]); (all_goals (repeat' (first | with_reducible intro _ | with_reducible apply And.intro | with_reducible refine Exists.intro gs115 ?_ | with_reducible refine Im.and ?_ ?_))); all_goals (first | assumption | trivial | ((with_reducible refine Im.i fun hf_ => ?_); first | exact (A169 hf_) | exact (Gu62 hf_) | exact (Ku61 hf_) | exact (Ou59 hf_).cst | exact (Lu60 hf_) | exact ok1.i | (exact LI.z (fun h => absurd h (by decide))) | (exact absurd hf_ (by omega)) | omega) | (unfold NBP; (try simp only [Ks169]); omega) | (unfold NBQ; (try simp only [Ks169]); omega) | omega | (have zz_ := fz_z (by assumption); omega) | (split <;> omega) | done))
                · refine ⟨(by (try simp only [pre_X14_dots_t, Ks169]); (all_goals (repeat' (first | with_reducible intro _ | with_reducible apply And.intro | with_reducible refine Exists.intro gs115 ?_ | with_reducible refine Im.and ?_ ?_))); all_goals (first | assumption | trivial | ((with_reducible refine Im.i fun hf_ => ?_); first | exact (A169 hf_) | exact (Gu62 hf_) | exact (Ku61 hf_) | exact (Ou59 hf_).cst | exact (Lu60 hf_) | exact ok1.i | (exact LI.z (fun h => absurd h (by decide))) | (exact absurd hf_ (by omega)) | omega) | (unfold NBP; (try simp only [Ks169]); omega) | (unfold NBQ; (try simp only [Ks169]); omega) | omega | (have zz_ := fz_z (by assumption); omega) | (split <;> omega) | done)), ?_⟩
                  intro s185 Ws185 e185_0 e185_1 e185_2 e185_3 e185_4 e185_5 e185_6 e185_7 e185_8 e185_9 e185_10 e185_11 e185_12 e185_13 e185_14 e185_15 e185_16 e185_17 e185_18 e185_19 e185_20 q185
                  unfold post_X14_dots_t at q185
                  obtain ⟨q185_1, q185_2, q185_3, q185_4, q185_5, q185_6⟩ := q185
                  (try simp only [Ks169, NBP, NBQ] at q185_1 q185_2 q185_3 q185_4 q185_5 q185_6 e185_0 e185_1 e185_2 e185_3 e185_4 e185_5 e185_6 e185_7 e185_8 e185_9 e185_10 e185_11 e185_12 e185_13 e185_14 e185_15 e185_16 e185_17 e185_18 e185_19 e185_20)
                  have Ks185 : rR s185 7 = rR σ 7 := by first | assumption | ((try simp only [rR_sF, rR_sA, rR_sT, rR_sL] at e185_0 e185_1 e185_2 e185_3 e185_4 e185_5 e185_6 e185_7 e185_8 e185_9 e185_10 e185_11 e185_12 e185_13 e185_14 e185_15 e185_16 e185_17 e185_18 e185_19 e185_20); omega)
                  have zr185 := fz_rng s185
                  have zc185 : fz s185 = 0 → fz s169 = 0 := fun hf => by omega
                  have A185 : Im (fz s185 = 0) (RG σ s185 (rR σ 7) x1) := fun hf => RG.trk hp_2 (A169 (zc185 hf)) (q185_4 (by omega)) (by omega)
                  have Ou63 : Im (fz s185 = 0) _ := fun hf => OP.gk0 (Ou59 (zc185 hf)) (GK.up (g := gs115) (N := rF s169 (rR σ 7) 7) (N' := rF s185 (rR σ 7) 7) (c := 0) (by first | assumption | omega | (simp only [rF_sT, rF_sA]; omega)))
                  have Lu64 : Im (fz s185 = 0) _ := fun hf => LI.gk0 hp_2 (Lu60 (zc185 hf)) (Ou59 (zc185 hf)) (q185_4 (by omega)) (GK.up (g := gs115) (N := rF s169 (rR σ 7) 7) (N' := rF s185 (rR σ 7) 7) (c := 0) (by first | assumption | omega | (simp only [rF_sT, rF_sA]; omega)))
                  have Ku65 : Im (fz s185 = 0) (GK g gs115 (rF σ (rR σ 7) 7) (rF s185 (rR σ 7) 7) x1) := fun hf => GK.trans (Ku61 (zc185 hf)) (GK.up (N := rF s169 (rR σ 7) 7) (N' := rF s185 (rR σ 7) 7) (c := 0) (by first | assumption | omega | (simp only [rF_sT, rF_sA]; omega))) (Or.inr (Or.inl rfl))
                  have Gu66 : Im (fz s185 = 0) (GS s185 (rR σ 7) gs115) := fun hf => GS.c3 hp_2 (Gu62 (zc185 hf)) (Ou59 (zc185 hf)) hp_12 (q185_4 (by omega)) (q185_6 (by omega))
                  have rNMp_185 := e185_0 rNMp_169; clear e185_0
                  have TPRp_185 := e185_1 TPRp_169; clear e185_1
                  have WNp_185 := e185_2 WNp_169; clear e185_2
                  have PNp_185 := e185_3 PNp_169; clear e185_3
                  have CCp_185 := e185_4 CCp_169; clear e185_4
                  exact (by (try simp only [post_X14_readArgs, Ks185]); (all_goals (repeat' (first | with_reducible intro _ | with_reducible apply And.intro | with_reducible refine Exists.intro gs115 ?_ | with_reducible refine Im.and ?_ ?_))); all_goals (first | assumption | trivial | ((with_reducible refine Im.i fun hf_ => ?_); first | exact (A185 hf_) | exact (Gu66 hf_) | exact (Ku65 hf_) | exact (Ou63 hf_).cst | exact (Lu64 hf_) | exact ok1.i | (exact LI.z (fun h => absurd h (by decide))) | (exact absurd hf_ (by omega)) | omega) | (unfold NBP; (try simp only [Ks185]); omega) | (unfold NBQ; (try simp only [Ks185]); omega) | omega | (have zz_ := fz_z (by assumption); omega) | (split <;> omega) | done))
        · have z97 := fz_n c97
          exact (by (try simp only [post_X14_readArgs, Ks88]); (all_goals (repeat' (first | with_reducible intro _ | with_reducible apply And.intro | with_reducible refine Exists.intro g88 ?_ | with_reducible refine Im.and ?_ ?_))); all_goals (first | assumption | trivial | ((with_reducible refine Im.i fun hf_ => ?_); first | exact (A88 hf_) | exact (Gu20 hf_) | exact (Ku19 hf_) | exact (Ou17 hf_).cst | exact (Lu18 hf_) | exact (O88 hf_).cst | exact (L88_1 hf_) | exact ok1.i | (exact LI.z (fun h => absurd h (by decide))) | (exact absurd hf_ (by omega)) | omega) | (unfold NBP; (try simp only [Ks88]); omega) | (unfold NBQ; (try simp only [Ks88]); omega) | omega | (have zz_ := fz_z (by assumption); omega) | (split <;> omega) | done))
      · refine ⟨g55, ?_⟩
        refine ⟨K, ?_⟩
        refine ⟨(by (try simp only [pre_X14_readNamed, Ks55]); (all_goals (repeat' (first | with_reducible intro _ | with_reducible apply And.intro | with_reducible refine Exists.intro g55 ?_ | with_reducible refine Im.and ?_ ?_))); all_goals (first | assumption | trivial | ((with_reducible refine Im.i fun hf_ => ?_); first | exact (I55_12 hf_) | exact (G55 hf_) | exact (KA55 hf_) | exact (O55 hf_).cst | exact (L55 hf_) | exact ok1.i | (exact LI.z (fun h => absurd h (by decide))) | (exact absurd hf_ (by omega)) | omega) | (unfold NBP; (try simp only [Ks55]); omega) | (unfold NBQ; (try simp only [Ks55]); omega) | omega | (have zz_ := fz_z (by assumption); omega) | (split <;> omega) | done)), ?_⟩
        refine ⟨(by (try simp only [rk_X14_readNamed, Ks55]); (all_goals (repeat' (first | with_reducible intro _ | with_reducible apply And.intro | with_reducible refine Exists.intro g55 ?_ | with_reducible refine Im.and ?_ ?_))); all_goals (first | assumption | trivial | ((with_reducible refine Im.i fun hf_ => ?_); first | exact (I55_12 hf_) | exact (G55 hf_) | exact (KA55 hf_) | exact (O55 hf_).cst | exact (L55 hf_) | exact ok1.i | (exact LI.z (fun h => absurd h (by decide))) | (exact absurd hf_ (by omega)) | omega) | (unfold NBP; (try simp only [Ks55]); omega) | (unfold NBQ; (try simp only [Ks55]); omega) | omega | (have zz_ := fz_z (by assumption); omega) | (split <;> omega) | done)), ?_⟩
        intro v73 s73 hv73 Ws73 e73_0 e73_1 e73_2 e73_3 e73_4 e73_5 e73_6 e73_7 e73_8 e73_9 q73
        unfold rng at hv73
        unfold post_X14_readNamed at q73
        obtain ⟨q73_1, q73_2, q73_3, q73_4, q73_5, q73_6, q73_7, q73_8, q73_9⟩ := q73
        (try simp only [Ks55, NBP, NBQ] at q73_1 q73_2 q73_3 q73_4 q73_5 q73_6 q73_7 q73_8 q73_9 e73_0 e73_1 e73_2 e73_3 e73_4 e73_5 e73_6 e73_7 e73_8 e73_9)
        have Ks73 : rR s73 7 = rR σ 7 := by first | assumption | ((try simp only [rR_sF, rR_sA, rR_sT, rR_sL] at e73_0 e73_1 e73_2 e73_3 e73_4 e73_5 e73_6 e73_7 e73_8 e73_9); omega)
        have zr73 := fz_rng s73
        have zc73 : fz s73 = 0 → fz s55 = 0 := fun hf => by omega
        have A73 : Im (fz s73 = 0) (RG σ s73 (rR σ 7) x1) := fun hf => RG.trk hp_2 (I55_12 (zc73 hf)) (q73_8 (by omega)) (Or.inr (Or.inl rfl))
        obtain ⟨g73, X73⟩ := q73_9
        have Ou67 : Im (fz s73 = 0) _ := fun hf => OP.gk0 (O55 (zc73 hf)) ((X73 hf).2.1)
        have Lu68 : Im (fz s73 = 0) _ := fun hf => LI.gk0 hp_2 (L55 (zc73 hf)) (O55 (zc73 hf)) (q73_8 (by omega)) ((X73 hf).2.1)
        have Ku69 : Im (fz s73 = 0) (GK g g73 (rF σ (rR σ 7) 7) (rF s73 (rR σ 7) 7) x1) := fun hf => GK.trans (KA55 (zc73 hf)) ((X73 hf).2.1) (Or.inr (Or.inl rfl))
        have Gu70 : Im (fz s73 = 0) (GS s73 (rR σ 7) g73) := fun hf => (X73 hf).1
        have r73 : Im (fz s73 = 0) _ := fun hf => (X73 hf).2.2.1
        have TPRp_73 := e73_0 TPRp_55; clear e73_0
        have CCp_73 := e73_1 CCp_55; clear e73_1
        intro hr_; unfold rng at hr_
        refine ⟨fun c97 => ?_, fun c97 => ?_⟩
        · have z97 := fz_z c97
          refine ⟨fun c102 => ?_, fun c102 => ?_⟩
          · refine ⟨(by (try simp only [Ks73]); (all_goals (repeat' (first | with_reducible intro _ | with_reducible apply And.intro | with_reducible refine Exists.intro g73 ?_ | with_reducible refine Im.and ?_ ?_))); all_goals (first | assumption | trivial | ((with_reducible refine Im.i fun hf_ => ?_); first | exact (A73 hf_) | exact (Gu70 hf_) | exact (Ku69 hf_) | exact (Ou67 hf_).cst | exact (Lu68 hf_) | exact (r73 hf_).cst | exact ok1.i | (exact LI.z (fun h => absurd h (by decide))) | (exact absurd hf_ (by omega)) | omega) | (unfold NBP; (try simp only [Ks73]); omega) | (unfold NBQ; (try simp only [Ks73]); omega) | omega | (have zz_ := fz_z (by assumption); omega) | (split <;> omega) | done)), ?_⟩
            have A129 : Im (fz s73 = 0) (RG σ (sT s73 (rR σ 7) 5 y55_3 v73) (rR σ 7) x1) := fun hf => RG.tst (f := 5) (i := y55_3) (x := v73) hp_2 (A73 hf) (by decide) (by omega)
            obtain ⟨gs129, Xs129⟩ := EA_2_c (P := fz s73 = 0) hp_12 hp_2 Gu70 Ou67 Lu68 r73 (fun _ h => h) (fun hf => by omega)
            have Ku71 : Im (fz s73 = 0) (GK g gs129 (rF σ (rR σ 7) 7) (rF s73 (rR σ 7) 7) x1) := fun hf => GK.ks (Ku69 hf) (Xs129 hf).2.2.2.1 (by omega) (by omega)
            have Gu72 : Im (fz s73 = 0) _ := fun hf => (Xs129 hf).1
            have Ou73 : Im (fz s73 = 0) _ := fun hf => (Xs129 hf).2.1
            have Lu74 : Im (fz s73 = 0) _ := fun hf => (Xs129 hf).2.2.1
            refine ⟨(by (try simp only [pre_X14_blanks, reduceIte, and_true, true_and, and_false, false_and, and_self, Nat.reduceEqDiff, fz_sA, rF_sA, rA_sA, rR_sA, rF_sT, rR_sT, sT_sF, fz_sT, rA_sT26 hp_2, rA_sT27 hp_2, rA_sT34 hp_2, rA_sT35 hp_2, rA_sT36 hp_2, rA_sT37 hp_2, rA_sT40 hp_2, TPRp_sT hp_2, WNp_sT hp_2, VMp_sT hp_2, KYp_sT hp_2, PPp_sT hp_2, WFp_sT hp_2, CCp_sT hp_2, rNMp_sT5, PNp_sT5, rk_n0 hp_2, Ks73]); (all_goals (repeat' (first | with_reducible intro _ | with_reducible apply And.intro | with_reducible refine Exists.intro gs129 ?_ | with_reducible refine Im.and ?_ ?_))); all_goals (first | assumption | trivial | ((with_reducible refine Im.i fun hf_ => ?_); first | exact (A129 hf_) | exact (Gu72 hf_) | exact (Ku71 hf_) | exact (Ou73 hf_).cst | exact (Lu74 hf_) | exact ok1.i | (exact LI.z (fun h => absurd h (by decide))) | (exact absurd hf_ (by omega)) | omega) | (unfold NBP; (try simp only [reduceIte, and_true, true_and, and_false, false_and, and_self, Nat.reduceEqDiff, fz_sA, rF_sA, rA_sA, rR_sA, rF_sT, rR_sT, sT_sF, fz_sT, rA_sT26 hp_2, rA_sT27 hp_2, rA_sT34 hp_2, rA_sT35 hp_2, rA_sT36 hp_2, rA_sT37 hp_2, rA_sT40 hp_2, TPRp_sT hp_2, WNp_sT hp_2, VMp_sT hp_2, KYp_sT hp_2, PPp_sT hp_2, WFp_sT hp_2, CCp_sT hp_2, rNMp_sT5, PNp_sT5, rk_n0 hp_2, Ks73]); omega) | (unfold NBQ; (try simp only [reduceIte, and_true, true_and, and_false, false_and, and_self, Nat.reduceEqDiff, fz_sA, rF_sA, rA_sA, rR_sA, rF_sT, rR_sT, sT_sF, fz_sT, rA_sT26 hp_2, rA_sT27 hp_2, rA_sT34 hp_2, rA_sT35 hp_2, rA_sT36 hp_2, rA_sT37 hp_2, rA_sT40 hp_2, TPRp_sT hp_2, WNp_sT hp_2, VMp_sT hp_2, KYp_sT hp_2, PPp_sT hp_2, WFp_sT hp_2, CCp_sT hp_2, rNMp_sT5, PNp_sT5, rk_n0 hp_2, Ks73]); omega) | omega | (have zz_ := fz_z (by assumption); omega) | (split <;> omega) | done)), ?_⟩
            intro s134 Ws134 e134_0 e134_1 e134_2 e134_3 e134_4 e134_5 e134_6 e134_7 e134_8 e134_9 e134_10 e134_11 e134_12 e134_13 e134_14 e134_15 e134_16 e134_17 e134_18 e134_19 e134_20 e134_21 e134_22 R134 q134
            have q134 := dig_blanks q134 (by (try simp only [reduceIte, and_true, true_and, and_false, false_and, and_self, Nat.reduceEqDiff, fz_sA, rF_sA, rA_sA, rR_sA, rF_sT, rR_sT, sT_sF, fz_sT, rA_sT26 hp_2, rA_sT27 hp_2, rA_sT34 hp_2, rA_sT35 hp_2, rA_sT36 hp_2, rA_sT37 hp_2, rA_sT40 hp_2, TPRp_sT hp_2, WNp_sT hp_2, VMp_sT hp_2, KYp_sT hp_2, PPp_sT hp_2, WFp_sT hp_2, CCp_sT hp_2, rNMp_sT5, PNp_sT5, rk_n0 hp_2, Ks73]); omega)
            obtain ⟨q134_1, q134_2⟩ := q134
            (try simp only [reduceIte, and_true, true_and, and_false, false_and, and_self, Nat.reduceEqDiff, fz_sA, rF_sA, rA_sA, rR_sA, rF_sT, rR_sT, sT_sF, fz_sT, rA_sT26 hp_2, rA_sT27 hp_2, rA_sT34 hp_2, rA_sT35 hp_2, rA_sT36 hp_2, rA_sT37 hp_2, rA_sT40 hp_2, TPRp_sT hp_2, WNp_sT hp_2, VMp_sT hp_2, KYp_sT hp_2, PPp_sT hp_2, WFp_sT hp_2, CCp_sT hp_2, rNMp_sT5, PNp_sT5, rk_n0 hp_2, Ks73, NBP, NBQ] at q134_1 q134_2 e134_0 e134_1 e134_2 e134_3 e134_4 e134_5 e134_6 e134_7 e134_8 e134_9 e134_10 e134_11 e134_12 e134_13 e134_14 e134_15 e134_16 e134_17 e134_18 e134_19 e134_20 e134_21 e134_22 R134)
            have Ks134 : rR s134 7 = rR σ 7 := by first | assumption | ((try simp only [rR_sF, rR_sA, rR_sT, rR_sL] at e134_0 e134_1 e134_2 e134_3 e134_4 e134_5 e134_6 e134_7 e134_8 e134_9 e134_10 e134_11 e134_12 e134_13 e134_14 e134_15 e134_16 e134_17 e134_18 e134_19 e134_20 e134_21 e134_22 R134); omega)
            have zr134 := fz_rng s134
            have zc134 : fz s134 = 0 → fz s73 = 0 := fun hf => by omega
            have A134 : Im (fz s134 = 0) (RG σ s134 (rR σ 7) x1) := fun hf => RG.trk hp_2 (A129 (zc134 hf)) R134 (Or.inr (Or.inl rfl))
            have Ou75 : Im (fz s134 = 0) _ := fun hf => OP.gk0 (Ou73 (zc134 hf)) (GK.up (g := gs129) (N := rF (sT s73 (rR σ 7) 5 y55_3 v73) (rR σ 7) 7) (N' := rF s134 (rR σ 7) 7) (c := 0) (by first | assumption | omega | (simp only [rF_sT, rF_sA]; omega)))
            have Lu76 : Im (fz s134 = 0) _ := fun hf => LI.gk0 hp_2 (Lu74 (zc134 hf)) (Ou73 (zc134 hf)) R134 (GK.up (g := gs129) (N := rF (sT s73 (rR σ 7) 5 y55_3 v73) (rR σ 7) 7) (N' := rF s134 (rR σ 7) 7) (c := 0) (by first | assumption | omega | (simp only [rF_sT, rF_sA]; omega)))
            have Ku77 : Im (fz s134 = 0) (GK g gs129 (rF σ (rR σ 7) 7) (rF s134 (rR σ 7) 7) x1) := fun hf => GK.trans (Ku71 (zc134 hf)) (GK.up (N := rF (sT s73 (rR σ 7) 5 y55_3 v73) (rR σ 7) 7) (N' := rF s134 (rR σ 7) 7) (c := 0) (by first | assumption | omega | (simp only [rF_sT, rF_sA]; omega))) (Or.inr (Or.inl rfl))
            have Gu78 : Im (fz s134 = 0) (GS s134 (rR σ 7) gs129) := fun hf => GS.mv hp_2 (Gu72 (zc134 hf)) R134 (by first | assumption | omega | (simp only [rF_sT, rF_sA]; omega)) (by first | (exact Int.le_of_eq (Eq.symm (by assumption))) | omega | (simp only [rF_sT, rF_sA]; omega))
            have rNMp_134 := e134_0 q73_2; clear e134_0
            have TPRp_134 := e134_1 TPRp_73; clear e134_1
            have WNp_134 := e134_2 q73_3; clear e134_2
            have PNp_134 := e134_3 q73_4; clear e134_3
            have CCp_134 := e134_4 CCp_73; clear e134_4
            refine ⟨(by (try simp only [pre_X14_here, Ks134]); (all_goals (repeat' (first | with_reducible intro _ | with_reducible apply And.intro | with_reducible refine Exists.intro gs129 ?_ | with_reducible refine Im.and ?_ ?_))); all_goals (first | assumption | trivial | ((with_reducible refine Im.i fun hf_ => ?_); first | exact (A134 hf_) | exact (Gu78 hf_) | exact (Ku77 hf_) | exact (Ou75 hf_).cst | exact (Lu76 hf_) | exact ok1.i | (exact LI.z (fun h => absurd h (by decide))) | (exact absurd hf_ (by omega)) | omega) | (unfold NBP; (try simp only [Ks134]); omega) | (unfold NBQ; (try simp only [Ks134]); omega) | omega | (have zz_ := fz_z (by assumption); omega) | (split <;> omega) | done)), ?_⟩
            intro v138 hv138 q138
            unfold rng at hv138
            unfold post_X14_here at q138
            obtain ⟨q138_1, q138_2⟩ := q138
            (try simp only [Ks134, NBP, NBQ] at q138_1 q138_2)
            refine ⟨fun c143 => ?_, fun c143 => ?_⟩
            · exact (by (try simp only [inv_X14_readArgs_55, mu_X14_readArgs_55, mu_X14_readArgs_55, Ks134]); (all_goals (repeat' (first | with_reducible intro _ | with_reducible apply And.intro | with_reducible refine Exists.intro gs129 ?_ | with_reducible refine Im.and ?_ ?_))); all_goals (first | assumption | trivial | ((with_reducible refine Im.i fun hf_ => ?_); first | exact (A134 hf_) | exact (Gu78 hf_) | exact (Ku77 hf_) | exact (Ou75 hf_).cst | exact (Lu76 hf_) | exact ok1.i | (exact LI.z (fun h => absurd h (by decide))) | (exact absurd hf_ (by omega)) | omega) | (unfold NBP; (try simp only [Ks134]); omega) | (unfold NBQ; (try simp only [Ks134]); omega) | omega | (have zz_ := fz_z (by assumption); omega) | (split <;> omega) | done))
            · intro hr_; unfold rng at hr_
              refine ⟨(by (try simp only [rng, Ks134]); (all_goals (repeat' (first | with_reducible intro _ | with_reducible apply And.intro | with_reducible refine Exists.intro gs129 ?_ | with_reducible refine Im.and ?_ ?_))); all_goals (first | assumption | trivial | ((with_reducible refine Im.i fun hf_ => ?_); first | exact (A134 hf_) | exact (Gu78 hf_) | exact (Ku77 hf_) | exact (Ou75 hf_).cst | exact (Lu76 hf_) | exact ok1.i | (exact LI.z (fun h => absurd h (by decide))) | (exact absurd hf_ (by omega)) | omega) | (unfold NBP; (try simp only [Ks134]); omega) | (unfold NBQ; (try simp only [Ks134]); omega) | omega | (have zz_ := fz_z (by assumption); omega) | (split <;> omega) | done)), ?_⟩
              refine ⟨(by (try simp only [pre_X14_blanks, reduceIte, and_true, true_and, and_false, false_and, and_self, Nat.reduceEqDiff, fz_sF29, rF_sF, rA_sF, rR_sF, tr_sF, rNMp_sF, PNp_sF, GS_F29, OP_F29, NR_F29, LI_F29, RG_l29, RG_r29, TPRp_sF29, WNp_sF29, VMp_sF29, KYp_sF29, PPp_sF29, WFp_sF29, CCp_sF29, rk_n0 hp_2, Ks134]); (all_goals (repeat' (first | with_reducible intro _ | with_reducible apply And.intro | with_reducible refine Exists.intro gs129 ?_ | with_reducible refine Im.and ?_ ?_))); all_goals (first | assumption | trivial | ((with_reducible refine Im.i fun hf_ => ?_); first | exact (A134 hf_) | exact (Gu78 hf_) | exact (Ku77 hf_) | exact (Ou75 hf_).cst | exact (Lu76 hf_) | exact ok1.i | (exact LI.z (fun h => absurd h (by decide))) | (exact absurd hf_ (by omega)) | omega) | (unfold NBP; (try simp only [reduceIte, and_true, true_and, and_false, false_and, and_self, Nat.reduceEqDiff, fz_sF29, rF_sF, rA_sF, rR_sF, tr_sF, rNMp_sF, PNp_sF, GS_F29, OP_F29, NR_F29, LI_F29, RG_l29, RG_r29, TPRp_sF29, WNp_sF29, VMp_sF29, KYp_sF29, PPp_sF29, WFp_sF29, CCp_sF29, rk_n0 hp_2, Ks134]); omega) | (unfold NBQ; (try simp only [reduceIte, and_true, true_and, and_false, false_and, and_self, Nat.reduceEqDiff, fz_sF29, rF_sF, rA_sF, rR_sF, tr_sF, rNMp_sF, PNp_sF, GS_F29, OP_F29, NR_F29, LI_F29, RG_l29, RG_r29, TPRp_sF29, WNp_sF29, VMp_sF29, KYp_sF29, PPp_sF29, WFp_sF29, CCp_sF29, rk_n0 hp_2, Ks134]); omega) | omega | (have zz_ := fz_z (by assumption); omega) | (split <;> omega) | done)), ?_⟩
              intro s169 Ws169 e169_0 e169_1 e169_2 e169_3 e169_4 e169_5 e169_6 e169_7 e169_8 e169_9 e169_10 e169_11 e169_12 e169_13 e169_14 e169_15 e169_16 e169_17 e169_18 e169_19 e169_20 e169_21 e169_22 R169 q169
              have q169 := dig_blanks q169 (by (try simp only [reduceIte, and_true, true_and, and_false, false_and, and_self, Nat.reduceEqDiff, fz_sF29, rF_sF, rA_sF, rR_sF, tr_sF, rNMp_sF, PNp_sF, GS_F29, OP_F29, NR_F29, LI_F29, RG_l29, RG_r29, TPRp_sF29, WNp_sF29, VMp_sF29, KYp_sF29, PPp_sF29, WFp_sF29, CCp_sF29, rk_n0 hp_2, Ks134]); omega)
              obtain ⟨q169_1, q169_2⟩ := q169
              (try simp only [reduceIte, and_true, true_and, and_false, false_and, and_self, Nat.reduceEqDiff, fz_sF29, rF_sF, rA_sF, rR_sF, tr_sF, rNMp_sF, PNp_sF, GS_F29, OP_F29, NR_F29, LI_F29, RG_l29, RG_r29, TPRp_sF29, WNp_sF29, VMp_sF29, KYp_sF29, PPp_sF29, WFp_sF29, CCp_sF29, rk_n0 hp_2, Ks134, NBP, NBQ] at q169_1 q169_2 e169_0 e169_1 e169_2 e169_3 e169_4 e169_5 e169_6 e169_7 e169_8 e169_9 e169_10 e169_11 e169_12 e169_13 e169_14 e169_15 e169_16 e169_17 e169_18 e169_19 e169_20 e169_21 e169_22 R169)
              have Ks169 : rR s169 7 = rR σ 7 := by first | assumption | ((try simp only [rR_sF, rR_sA, rR_sT, rR_sL] at e169_0 e169_1 e169_2 e169_3 e169_4 e169_5 e169_6 e169_7 e169_8 e169_9 e169_10 e169_11 e169_12 e169_13 e169_14 e169_15 e169_16 e169_17 e169_18 e169_19 e169_20 e169_21 e169_22 R169); omega)
              have zr169 := fz_rng s169
              have zc169 : fz s169 = 0 → fz s134 = 0 := fun hf => by omega
              have A169 : Im (fz s169 = 0) (RG σ s169 (rR σ 7) x1) := fun hf => RG.trk hp_2 (A134 (zc169 hf)) R169 (Or.inr (Or.inl rfl))
              have Ou79 : Im (fz s169 = 0) _ := fun hf => OP.gk0 (Ou75 (zc169 hf)) (GK.up (g := gs129) (N := rF s134 (rR σ 7) 7) (N' := rF s169 (rR σ 7) 7) (c := 0) (by first | assumption | omega | (simp only [rF_sT, rF_sA]; omega)))
              have Lu80 : Im (fz s169 = 0) _ := fun hf => LI.gk0 hp_2 (Lu76 (zc169 hf)) (Ou75 (zc169 hf)) R169 (GK.up (g := gs129) (N := rF s134 (rR σ 7) 7) (N' := rF s169 (rR σ 7) 7) (c := 0) (by first | assumption | omega | (simp only [rF_sT, rF_sA]; omega)))
              have Ku81 : Im (fz s169 = 0) (GK g gs129 (rF σ (rR σ 7) 7) (rF s169 (rR σ 7) 7) x1) := fun hf => GK.trans (Ku77 (zc169 hf)) (GK.up (N := rF s134 (rR σ 7) 7) (N' := rF s169 (rR σ 7) 7) (c := 0) (by first | assumption | omega | (simp only [rF_sT, rF_sA]; omega))) (Or.inr (Or.inl rfl))
              have Gu82 : Im (fz s169 = 0) (GS s169 (rR σ 7) gs129) := fun hf => GS.mv hp_2 (Gu78 (zc169 hf)) R169 (by first | assumption | omega | (simp only [rF_sT, rF_sA]; omega)) (by first | (exact Int.le_of_eq (Eq.symm (by assumption))) | omega | (simp only [rF_sT, rF_sA]; omega))
              have rNMp_169 := e169_0 rNMp_134; clear e169_0
              have TPRp_169 := e169_1 TPRp_134; clear e169_1
              have WNp_169 := e169_2 WNp_134; clear e169_2
              have PNp_169 := e169_3 PNp_134; clear e169_3
              have CCp_169 := e169_4 CCp_134; clear e169_4
              refine ⟨fun c173 => ?_, fun c173 => ?_⟩
              · exact (by (try simp only [inv_X14_readArgs_55, mu_X14_readArgs_55, mu_X14_readArgs_55, Ks169]); (all_goals (repeat' (first | with_reducible intro _ | with_reducible apply And.intro | with_reducible refine Exists.intro gs129 ?_ | with_reducible refine Im.and ?_ ?_))); all_goals (first | assumption | trivial | ((with_reducible refine Im.i fun hf_ => ?_); first | exact (A169 hf_) | exact (Gu82 hf_) | exact (Ku81 hf_) | exact (Ou79 hf_).cst | exact (Lu80 hf_) | exact ok1.i | (exact LI.z (fun h => absurd h (by decide))) | (exact absurd hf_ (by omega)) | omega) | (unfold NBP; (try simp only [Ks169]); omega) | (unfold NBQ; (try simp only [Ks169]); omega) | omega | (have zz_ := fz_z (by assumption); omega) | (split <;> omega) | done))
              · refine ⟨(by (try simp only [pre_X14_isDots, Ks169]); (all_goals (repeat' (first | with_reducible intro _ | with_reducible apply And.intro | with_reducible refine Exists.intro gs129 ?_ | with_reducible refine Im.and ?_ ?_))); all_goals (first | assumption | trivial | ((with_reducible refine Im.i fun hf_ => ?_); first | exact (A169 hf_) | exact (Gu82 hf_) | exact (Ku81 hf_) | exact (Ou79 hf_).cst | exact (Lu80 hf_) | exact ok1.i | (exact LI.z (fun h => absurd h (by decide))) | (exact absurd hf_ (by omega)) | omega) | (unfold NBP; (try simp only [Ks169]); omega) | (unfold NBQ; (try simp only [Ks169]); omega) | omega | (have zz_ := fz_z (by assumption); omega) | (split <;> omega) | done)), ?_⟩
                intro v177 hv177 q177
                unfold rng at hv177
                unfold post_X14_isDots at q177
                obtain ⟨q177_1, q177_2⟩ := q177
                (try simp only [Ks169, NBP, NBQ] at q177_1 q177_2)
                refine ⟨fun c180 => ?_, fun c180 => ?_⟩
                · exact (by (try simp only [inv_X14_readArgs_55, mu_X14_readArgs_55, mu_X14_readArgs_55, Ks169]); (all_goals (repeat' (first | with_reducible intro _ | with_reducible apply And.intro | with_reducible refine Exists.intro gs129 ?_ | with_reducible refine Im.and ?_ ?_))); all_goals (first | assumption | trivial | ((with_reducible refine Im.i fun hf_ => ?_); first | exact (A169 hf_) | exact (Gu82 hf_) | exact (Ku81 hf_) | exact (Ou79 hf_).cst | exact (Lu80 hf_) | exact ok1.i | (exact LI.z (fun h => absurd h (by decide))) | (exact absurd hf_ (by omega)) | omega) | (unfold NBP; (try simp only [Ks169]); omega) | (unfold NBQ; (try simp only [Ks169]); omega) | omega | (have zz_ := fz_z (by assumption); omega) | (split <;> omega) | done))
                · refine ⟨(by (try simp only [pre_X14_dots_t, Ks169]); (all_goals (repeat' (first | with_reducible intro _ | with_reducible apply And.intro | with_reducible refine Exists.intro gs129 ?_ | with_reducible refine Im.and ?_ ?_))); all_goals (first | assumption | trivial | ((with_reducible refine Im.i fun hf_ => ?_); first | exact (A169 hf_) | exact (Gu82 hf_) | exact (Ku81 hf_) | exact (Ou79 hf_).cst | exact (Lu80 hf_) | exact ok1.i | (exact LI.z (fun h => absurd h (by decide))) | (exact absurd hf_ (by omega)) | omega) | (unfold NBP; (try simp only [Ks169]); omega) | (unfold NBQ; (try simp only [Ks169]); omega) | omega | (have zz_ := fz_z (by assumption); omega) | (split <;> omega) | done)), ?_⟩
                  intro s185 Ws185 e185_0 e185_1 e185_2 e185_3 e185_4 e185_5 e185_6 e185_7 e185_8 e185_9 e185_10 e185_11 e185_12 e185_13 e185_14 e185_15 e185_16 e185_17 e185_18 e185_19 e185_20 q185
                  unfold post_X14_dots_t at q185
                  obtain ⟨q185_1, q185_2, q185_3, q185_4, q185_5, q185_6⟩ := q185
                  (try simp only [Ks169, NBP, NBQ] at q185_1 q185_2 q185_3 q185_4 q185_5 q185_6 e185_0 e185_1 e185_2 e185_3 e185_4 e185_5 e185_6 e185_7 e185_8 e185_9 e185_10 e185_11 e185_12 e185_13 e185_14 e185_15 e185_16 e185_17 e185_18 e185_19 e185_20)
                  have Ks185 : rR s185 7 = rR σ 7 := by first | assumption | ((try simp only [rR_sF, rR_sA, rR_sT, rR_sL] at e185_0 e185_1 e185_2 e185_3 e185_4 e185_5 e185_6 e185_7 e185_8 e185_9 e185_10 e185_11 e185_12 e185_13 e185_14 e185_15 e185_16 e185_17 e185_18 e185_19 e185_20); omega)
                  have zr185 := fz_rng s185
                  have zc185 : fz s185 = 0 → fz s169 = 0 := fun hf => by omega
                  have A185 : Im (fz s185 = 0) (RG σ s185 (rR σ 7) x1) := fun hf => RG.trk hp_2 (A169 (zc185 hf)) (q185_4 (by omega)) (by omega)
                  have Ou83 : Im (fz s185 = 0) _ := fun hf => OP.gk0 (Ou79 (zc185 hf)) (GK.up (g := gs129) (N := rF s169 (rR σ 7) 7) (N' := rF s185 (rR σ 7) 7) (c := 0) (by first | assumption | omega | (simp only [rF_sT, rF_sA]; omega)))
                  have Lu84 : Im (fz s185 = 0) _ := fun hf => LI.gk0 hp_2 (Lu80 (zc185 hf)) (Ou79 (zc185 hf)) (q185_4 (by omega)) (GK.up (g := gs129) (N := rF s169 (rR σ 7) 7) (N' := rF s185 (rR σ 7) 7) (c := 0) (by first | assumption | omega | (simp only [rF_sT, rF_sA]; omega)))
                  have Ku85 : Im (fz s185 = 0) (GK g gs129 (rF σ (rR σ 7) 7) (rF s185 (rR σ 7) 7) x1) := fun hf => GK.trans (Ku81 (zc185 hf)) (GK.up (N := rF s169 (rR σ 7) 7) (N' := rF s185 (rR σ 7) 7) (c := 0) (by first | assumption | omega | (simp only [rF_sT, rF_sA]; omega))) (Or.inr (Or.inl rfl))
                  have Gu86 : Im (fz s185 = 0) (GS s185 (rR σ 7) gs129) := fun hf => GS.c3 hp_2 (Gu82 (zc185 hf)) (Ou79 (zc185 hf)) hp_12 (q185_4 (by omega)) (q185_6 (by omega))
                  have rNMp_185 := e185_0 rNMp_169; clear e185_0
                  have TPRp_185 := e185_1 TPRp_169; clear e185_1
                  have WNp_185 := e185_2 WNp_169; clear e185_2
                  have PNp_185 := e185_3 PNp_169; clear e185_3
                  have CCp_185 := e185_4 CCp_169; clear e185_4
                  exact (by (try simp only [post_X14_readArgs, Ks185]); (all_goals (repeat' (first | with_reducible intro _ | with_reducible apply And.intro | with_reducible refine Exists.intro gs129 ?_ | with_reducible refine Im.and ?_ ?_))); all_goals (first | assumption | trivial | ((with_reducible refine Im.i fun hf_ => ?_); first | exact (A185 hf_) | exact (Gu86 hf_) | exact (Ku85 hf_) | exact (Ou83 hf_).cst | exact (Lu84 hf_) | exact ok1.i | (exact LI.z (fun h => absurd h (by decide))) | (exact absurd hf_ (by omega)) | omega) | (unfold NBP; (try simp only [Ks185]); omega) | (unfold NBQ; (try simp only [Ks185]); omega) | omega | (have zz_ := fz_z (by assumption); omega) | (split <;> omega) | done))
          · refine ⟨(by (try simp only [Ks73]); (all_goals (repeat' (first | with_reducible intro _ | with_reducible apply And.intro | with_reducible refine Exists.intro g73 ?_ | with_reducible refine Im.and ?_ ?_))); all_goals (first | assumption | trivial | ((with_reducible refine Im.i fun hf_ => ?_); first | exact (A73 hf_) | exact (Gu70 hf_) | exact (Ku69 hf_) | exact (Ou67 hf_).cst | exact (Lu68 hf_) | exact (r73 hf_).cst | exact ok1.i | (exact LI.z (fun h => absurd h (by decide))) | (exact absurd hf_ (by omega)) | omega) | (unfold NBP; (try simp only [Ks73]); omega) | (unfold NBQ; (try simp only [Ks73]); omega) | omega | (have zz_ := fz_z (by assumption); omega) | (split <;> omega) | done)), ?_⟩
            have A115 : Im (fz s73 = 0) (RG σ (sT s73 (rR σ 7) 2 x1 v73) (rR σ 7) x1) := fun hf => RG.tst (f := 2) (i := x1) (x := v73) hp_2 (A73 hf) (by decide) (by omega)
            obtain ⟨gs115, Xs115⟩ := EH_2_c (P := fz s73 = 0) hp_12 hp_2 Gu70 Ou67 Lu68 r73 (fun _ h => h) (fun hf => by omega)
            have Ku87 : Im (fz s73 = 0) (GK g gs115 (rF σ (rR σ 7) 7) (rF s73 (rR σ 7) 7) x1) := fun hf => GK.ks (Ku69 hf) (Xs115 hf).2.2.2.1 (by omega) (by omega)
            have Gu88 : Im (fz s73 = 0) _ := fun hf => (Xs115 hf).1
            have Ou89 : Im (fz s73 = 0) _ := fun hf => (Xs115 hf).2.1
            have Lu90 : Im (fz s73 = 0) _ := fun hf => (Xs115 hf).2.2.1
            refine ⟨(by (try simp only [pre_X14_blanks, reduceIte, and_true, true_and, and_false, false_and, and_self, Nat.reduceEqDiff, fz_sA, rF_sA, rA_sA, rR_sA, rF_sT, rR_sT, sT_sF, fz_sT, rA_sT26 hp_2, rA_sT27 hp_2, rA_sT34 hp_2, rA_sT35 hp_2, rA_sT36 hp_2, rA_sT37 hp_2, rA_sT40 hp_2, TPRp_sT hp_2, WNp_sT hp_2, VMp_sT hp_2, KYp_sT hp_2, PPp_sT hp_2, WFp_sT hp_2, CCp_sT hp_2, rNMp_sT2, PNp_sT2, rk_n0 hp_2, Ks73]); (all_goals (repeat' (first | with_reducible intro _ | with_reducible apply And.intro | with_reducible refine Exists.intro gs115 ?_ | with_reducible refine Im.and ?_ ?_))); all_goals (first | assumption | trivial | ((with_reducible refine Im.i fun hf_ => ?_); first | exact (A115 hf_) | exact (Gu88 hf_) | exact (Ku87 hf_) | exact (Ou89 hf_).cst | exact (Lu90 hf_) | exact ok1.i | (exact LI.z (fun h => absurd h (by decide))) | (exact absurd hf_ (by omega)) | omega) | (unfold NBP; (try simp only [reduceIte, and_true, true_and, and_false, false_and, and_self, Nat.reduceEqDiff, fz_sA, rF_sA, rA_sA, rR_sA, rF_sT, rR_sT, sT_sF, fz_sT, rA_sT26 hp_2, rA_sT27 hp_2, rA_sT34 hp_2, rA_sT35 hp_2, rA_sT36 hp_2, rA_sT37 hp_2, rA_sT40 hp_2, TPRp_sT hp_2, WNp_sT hp_2, VMp_sT hp_2, KYp_sT hp_2, PPp_sT hp_2, WFp_sT hp_2, CCp_sT hp_2, rNMp_sT2, PNp_sT2, rk_n0 hp_2, Ks73]); omega) | (unfold NBQ; (try simp only [reduceIte, and_true, true_and, and_false, false_and, and_self, Nat.reduceEqDiff, fz_sA, rF_sA, rA_sA, rR_sA, rF_sT, rR_sT, sT_sF, fz_sT, rA_sT26 hp_2, rA_sT27 hp_2, rA_sT34 hp_2, rA_sT35 hp_2, rA_sT36 hp_2, rA_sT37 hp_2, rA_sT40 hp_2, TPRp_sT hp_2, WNp_sT hp_2, VMp_sT hp_2, KYp_sT hp_2, PPp_sT hp_2, WFp_sT hp_2, CCp_sT hp_2, rNMp_sT2, PNp_sT2, rk_n0 hp_2, Ks73]); omega) | omega | (have zz_ := fz_z (by assumption); omega) | (split <;> omega) | done)), ?_⟩
            intro s134 Ws134 e134_0 e134_1 e134_2 e134_3 e134_4 e134_5 e134_6 e134_7 e134_8 e134_9 e134_10 e134_11 e134_12 e134_13 e134_14 e134_15 e134_16 e134_17 e134_18 e134_19 e134_20 e134_21 e134_22 R134 q134
            have q134 := dig_blanks q134 (by (try simp only [reduceIte, and_true, true_and, and_false, false_and, and_self, Nat.reduceEqDiff, fz_sA, rF_sA, rA_sA, rR_sA, rF_sT, rR_sT, sT_sF, fz_sT, rA_sT26 hp_2, rA_sT27 hp_2, rA_sT34 hp_2, rA_sT35 hp_2, rA_sT36 hp_2, rA_sT37 hp_2, rA_sT40 hp_2, TPRp_sT hp_2, WNp_sT hp_2, VMp_sT hp_2, KYp_sT hp_2, PPp_sT hp_2, WFp_sT hp_2, CCp_sT hp_2, rNMp_sT2, PNp_sT2, rk_n0 hp_2, Ks73]); omega)
            obtain ⟨q134_1, q134_2⟩ := q134
            (try simp only [reduceIte, and_true, true_and, and_false, false_and, and_self, Nat.reduceEqDiff, fz_sA, rF_sA, rA_sA, rR_sA, rF_sT, rR_sT, sT_sF, fz_sT, rA_sT26 hp_2, rA_sT27 hp_2, rA_sT34 hp_2, rA_sT35 hp_2, rA_sT36 hp_2, rA_sT37 hp_2, rA_sT40 hp_2, TPRp_sT hp_2, WNp_sT hp_2, VMp_sT hp_2, KYp_sT hp_2, PPp_sT hp_2, WFp_sT hp_2, CCp_sT hp_2, rNMp_sT2, PNp_sT2, rk_n0 hp_2, Ks73, NBP, NBQ] at q134_1 q134_2 e134_0 e134_1 e134_2 e134_3 e134_4 e134_5 e134_6 e134_7 e134_8 e134_9 e134_10 e134_11 e134_12 e134_13 e134_14 e134_15 e134_16 e134_17 e134_18 e134_19 e134_20 e134_21 e134_22 R134)
            have Ks134 : rR s134 7 = rR σ 7 := by first | assumption | ((try simp only [rR_sF, rR_sA, rR_sT, rR_sL] at e134_0 e134_1 e134_2 e134_3 e134_4 e134_5 e134_6 e134_7 e134_8 e134_9 e134_10 e134_11 e134_12 e134_13 e134_14 e134_15 e134_16 e134_17 e134_18 e134_19 e134_20 e134_21 e134_22 R134); omega)
            have zr134 := fz_rng s134
            have zc134 : fz s134 = 0 → fz s73 = 0 := fun hf => by omega
            have A134 : Im (fz s134 = 0) (RG σ s134 (rR σ 7) x1) := fun hf => RG.trk hp_2 (A115 (zc134 hf)) R134 (Or.inr (Or.inl rfl))
            have Ou91 : Im (fz s134 = 0) _ := fun hf => OP.gk0 (Ou89 (zc134 hf)) (GK.up (g := gs115) (N := rF (sT s73 (rR σ 7) 2 x1 v73) (rR σ 7) 7) (N' := rF s134 (rR σ 7) 7) (c := 0) (by first | assumption | omega | (simp only [rF_sT, rF_sA]; omega)))
            have Lu92 : Im (fz s134 = 0) _ := fun hf => LI.gk0 hp_2 (Lu90 (zc134 hf)) (Ou89 (zc134 hf)) R134 (GK.up (g := gs115) (N := rF (sT s73 (rR σ 7) 2 x1 v73) (rR σ 7) 7) (N' := rF s134 (rR σ 7) 7) (c := 0) (by first | assumption | omega | (simp only [rF_sT, rF_sA]; omega)))
            have Ku93 : Im (fz s134 = 0) (GK g gs115 (rF σ (rR σ 7) 7) (rF s134 (rR σ 7) 7) x1) := fun hf => GK.trans (Ku87 (zc134 hf)) (GK.up (N := rF (sT s73 (rR σ 7) 2 x1 v73) (rR σ 7) 7) (N' := rF s134 (rR σ 7) 7) (c := 0) (by first | assumption | omega | (simp only [rF_sT, rF_sA]; omega))) (Or.inr (Or.inl rfl))
            have Gu94 : Im (fz s134 = 0) (GS s134 (rR σ 7) gs115) := fun hf => GS.mv hp_2 (Gu88 (zc134 hf)) R134 (by first | assumption | omega | (simp only [rF_sT, rF_sA]; omega)) (by first | (exact Int.le_of_eq (Eq.symm (by assumption))) | omega | (simp only [rF_sT, rF_sA]; omega))
            have rNMp_134 := e134_0 q73_2; clear e134_0
            have TPRp_134 := e134_1 TPRp_73; clear e134_1
            have WNp_134 := e134_2 q73_3; clear e134_2
            have PNp_134 := e134_3 q73_4; clear e134_3
            have CCp_134 := e134_4 CCp_73; clear e134_4
            refine ⟨(by (try simp only [pre_X14_here, Ks134]); (all_goals (repeat' (first | with_reducible intro _ | with_reducible apply And.intro | with_reducible refine Exists.intro gs115 ?_ | with_reducible refine Im.and ?_ ?_))); all_goals (first | assumption | trivial | ((with_reducible refine Im.i fun hf_ => ?_); first | exact (A134 hf_) | exact (Gu94 hf_) | exact (Ku93 hf_) | exact (Ou91 hf_).cst | exact (Lu92 hf_) | exact ok1.i | (exact LI.z (fun h => absurd h (by decide))) | (exact absurd hf_ (by omega)) | omega) | (unfold NBP; (try simp only [Ks134]); omega) | (unfold NBQ; (try simp only [Ks134]); omega) | omega | (have zz_ := fz_z (by assumption); omega) | (split <;> omega) | done)), ?_⟩
            intro v138 hv138 q138
            unfold rng at hv138
            unfold post_X14_here at q138
            obtain ⟨q138_1, q138_2⟩ := q138
            (try simp only [Ks134, NBP, NBQ] at q138_1 q138_2)
            refine ⟨fun c143 => ?_, fun c143 => ?_⟩
            · exact (by (try simp only [inv_X14_readArgs_55, mu_X14_readArgs_55, mu_X14_readArgs_55, Ks134]); (all_goals (repeat' (first | with_reducible intro _ | with_reducible apply And.intro | with_reducible refine Exists.intro gs115 ?_ | with_reducible refine Im.and ?_ ?_))); all_goals (first | assumption | trivial | ((with_reducible refine Im.i fun hf_ => ?_); first | exact (A134 hf_) | exact (Gu94 hf_) | exact (Ku93 hf_) | exact (Ou91 hf_).cst | exact (Lu92 hf_) | exact ok1.i | (exact LI.z (fun h => absurd h (by decide))) | (exact absurd hf_ (by omega)) | omega) | (unfold NBP; (try simp only [Ks134]); omega) | (unfold NBQ; (try simp only [Ks134]); omega) | omega | (have zz_ := fz_z (by assumption); omega) | (split <;> omega) | done))
            · intro hr_; unfold rng at hr_
              refine ⟨(by (try simp only [rng, Ks134]); (all_goals (repeat' (first | with_reducible intro _ | with_reducible apply And.intro | with_reducible refine Exists.intro gs115 ?_ | with_reducible refine Im.and ?_ ?_))); all_goals (first | assumption | trivial | ((with_reducible refine Im.i fun hf_ => ?_); first | exact (A134 hf_) | exact (Gu94 hf_) | exact (Ku93 hf_) | exact (Ou91 hf_).cst | exact (Lu92 hf_) | exact ok1.i | (exact LI.z (fun h => absurd h (by decide))) | (exact absurd hf_ (by omega)) | omega) | (unfold NBP; (try simp only [Ks134]); omega) | (unfold NBQ; (try simp only [Ks134]); omega) | omega | (have zz_ := fz_z (by assumption); omega) | (split <;> omega) | done)), ?_⟩
              refine ⟨(by (try simp only [pre_X14_blanks, reduceIte, and_true, true_and, and_false, false_and, and_self, Nat.reduceEqDiff, fz_sF29, rF_sF, rA_sF, rR_sF, tr_sF, rNMp_sF, PNp_sF, GS_F29, OP_F29, NR_F29, LI_F29, RG_l29, RG_r29, TPRp_sF29, WNp_sF29, VMp_sF29, KYp_sF29, PPp_sF29, WFp_sF29, CCp_sF29, rk_n0 hp_2, Ks134]); (all_goals (repeat' (first | with_reducible intro _ | with_reducible apply And.intro | with_reducible refine Exists.intro gs115 ?_ | with_reducible refine Im.and ?_ ?_))); all_goals (first | assumption | trivial | ((with_reducible refine Im.i fun hf_ => ?_); first | exact (A134 hf_) | exact (Gu94 hf_) | exact (Ku93 hf_) | exact (Ou91 hf_).cst | exact (Lu92 hf_) | exact ok1.i | (exact LI.z (fun h => absurd h (by decide))) | (exact absurd hf_ (by omega)) | omega) | (unfold NBP; (try simp only [reduceIte, and_true, true_and, and_false, false_and, and_self, Nat.reduceEqDiff, fz_sF29, rF_sF, rA_sF, rR_sF, tr_sF, rNMp_sF, PNp_sF, GS_F29, OP_F29, NR_F29, LI_F29, RG_l29, RG_r29, TPRp_sF29, WNp_sF29, VMp_sF29, KYp_sF29, PPp_sF29, WFp_sF29, CCp_sF29, rk_n0 hp_2, Ks134]); omega) | (unfold NBQ; (try simp only [reduceIte, and_true, true_and, and_false, false_and, and_self, Nat.reduceEqDiff, fz_sF29, rF_sF, rA_sF, rR_sF, tr_sF, rNMp_sF, PNp_sF, GS_F29, OP_F29, NR_F29, LI_F29, RG_l29, RG_r29, TPRp_sF29, WNp_sF29, VMp_sF29, KYp_sF29, PPp_sF29, WFp_sF29, CCp_sF29, rk_n0 hp_2, Ks134]); omega) | omega | (have zz_ := fz_z (by assumption); omega) | (split <;> omega) | done)), ?_⟩
              intro s169 Ws169 e169_0 e169_1 e169_2 e169_3 e169_4 e169_5 e169_6 e169_7 e169_8 e169_9 e169_10 e169_11 e169_12 e169_13 e169_14 e169_15 e169_16 e169_17 e169_18 e169_19 e169_20 e169_21 e169_22 R169 q169
              have q169 := dig_blanks q169 (by (try simp only [reduceIte, and_true, true_and, and_false, false_and, and_self, Nat.reduceEqDiff, fz_sF29, rF_sF, rA_sF, rR_sF, tr_sF, rNMp_sF, PNp_sF, GS_F29, OP_F29, NR_F29, LI_F29, RG_l29, RG_r29, TPRp_sF29, WNp_sF29, VMp_sF29, KYp_sF29, PPp_sF29, WFp_sF29, CCp_sF29, rk_n0 hp_2, Ks134]); omega)
              obtain ⟨q169_1, q169_2⟩ := q169
              (try simp only [reduceIte, and_true, true_and, and_false, false_and, and_self, Nat.reduceEqDiff, fz_sF29, rF_sF, rA_sF, rR_sF, tr_sF, rNMp_sF, PNp_sF, GS_F29, OP_F29, NR_F29, LI_F29, RG_l29, RG_r29, TPRp_sF29, WNp_sF29, VMp_sF29, KYp_sF29, PPp_sF29, WFp_sF29, CCp_sF29, rk_n0 hp_2, Ks134, NBP, NBQ] at q169_1 q169_2 e169_0 e169_1 e169_2 e169_3 e169_4 e169_5 e169_6 e169_7 e169_8 e169_9 e169_10 e169_11 e169_12 e169_13 e169_14 e169_15 e169_16 e169_17 e169_18 e169_19 e169_20 e169_21 e169_22 R169)
              have Ks169 : rR s169 7 = rR σ 7 := by first | assumption | ((try simp only [rR_sF, rR_sA, rR_sT, rR_sL] at e169_0 e169_1 e169_2 e169_3 e169_4 e169_5 e169_6 e169_7 e169_8 e169_9 e169_10 e169_11 e169_12 e169_13 e169_14 e169_15 e169_16 e169_17 e169_18 e169_19 e169_20 e169_21 e169_22 R169); omega)
              have zr169 := fz_rng s169
              have zc169 : fz s169 = 0 → fz s134 = 0 := fun hf => by omega
              have A169 : Im (fz s169 = 0) (RG σ s169 (rR σ 7) x1) := fun hf => RG.trk hp_2 (A134 (zc169 hf)) R169 (Or.inr (Or.inl rfl))
              have Ou95 : Im (fz s169 = 0) _ := fun hf => OP.gk0 (Ou91 (zc169 hf)) (GK.up (g := gs115) (N := rF s134 (rR σ 7) 7) (N' := rF s169 (rR σ 7) 7) (c := 0) (by first | assumption | omega | (simp only [rF_sT, rF_sA]; omega)))
              have Lu96 : Im (fz s169 = 0) _ := fun hf => LI.gk0 hp_2 (Lu92 (zc169 hf)) (Ou91 (zc169 hf)) R169 (GK.up (g := gs115) (N := rF s134 (rR σ 7) 7) (N' := rF s169 (rR σ 7) 7) (c := 0) (by first | assumption | omega | (simp only [rF_sT, rF_sA]; omega)))
              have Ku97 : Im (fz s169 = 0) (GK g gs115 (rF σ (rR σ 7) 7) (rF s169 (rR σ 7) 7) x1) := fun hf => GK.trans (Ku93 (zc169 hf)) (GK.up (N := rF s134 (rR σ 7) 7) (N' := rF s169 (rR σ 7) 7) (c := 0) (by first | assumption | omega | (simp only [rF_sT, rF_sA]; omega))) (Or.inr (Or.inl rfl))
              have Gu98 : Im (fz s169 = 0) (GS s169 (rR σ 7) gs115) := fun hf => GS.mv hp_2 (Gu94 (zc169 hf)) R169 (by first | assumption | omega | (simp only [rF_sT, rF_sA]; omega)) (by first | (exact Int.le_of_eq (Eq.symm (by assumption))) | omega | (simp only [rF_sT, rF_sA]; omega))
              have rNMp_169 := e169_0 rNMp_134; clear e169_0
              have TPRp_169 := e169_1 TPRp_134; clear e169_1
              have WNp_169 := e169_2 WNp_134; clear e169_2
              have PNp_169 := e169_3 PNp_134; clear e169_3
              have CCp_169 := e169_4 CCp_134; clear e169_4
              refine ⟨fun c173 => ?_, fun c173 => ?_⟩
              · exact (by (try simp only [inv_X14_readArgs_55, mu_X14_readArgs_55, mu_X14_readArgs_55, Ks169]); (all_goals (repeat' (first | with_reducible intro _ | with_reducible apply And.intro | with_reducible refine Exists.intro gs115 ?_ | with_reducible refine Im.and ?_ ?_))); all_goals (first | assumption | trivial | ((with_reducible refine Im.i fun hf_ => ?_); first | exact (A169 hf_) | exact (Gu98 hf_) | exact (Ku97 hf_) | exact (Ou95 hf_).cst | exact (Lu96 hf_) | exact ok1.i | (exact LI.z (fun h => absurd h (by decide))) | (exact absurd hf_ (by omega)) | omega) | (unfold NBP; (try simp only [Ks169]); omega) | (unfold NBQ; (try simp only [Ks169]); omega) | omega | (have zz_ := fz_z (by assumption); omega) | (split <;> omega) | done))
              · refine ⟨(by (try simp only [pre_X14_isDots, Ks169]); (all_goals (repeat' (first | with_reducible intro _ | with_reducible apply And.intro | with_reducible refine Exists.intro gs115 ?_ | with_reducible refine Im.and ?_ ?_))); all_goals (first | assumption | trivial | ((with_reducible refine Im.i fun hf_ => ?_); first | exact (A169 hf_) | exact (Gu98 hf_) | exact (Ku97 hf_) | exact (Ou95 hf_).cst | exact (Lu96 hf_) | exact ok1.i | (exact LI.z (fun h => absurd h (by decide))) | (exact absurd hf_ (by omega)) | omega) | (unfold NBP; (try simp only [Ks169]); omega) | (unfold NBQ; (try simp only [Ks169]); omega) | omega | (have zz_ := fz_z (by assumption); omega) | (split <;> omega) | done)), ?_⟩
                intro v177 hv177 q177
                unfold rng at hv177
                unfold post_X14_isDots at q177
                obtain ⟨q177_1, q177_2⟩ := q177
                (try simp only [Ks169, NBP, NBQ] at q177_1 q177_2)
                refine ⟨fun c180 => ?_, fun c180 => ?_⟩
                · exact (by (try simp only [inv_X14_readArgs_55, mu_X14_readArgs_55, mu_X14_readArgs_55, Ks169]); (all_goals (repeat' (first | with_reducible intro _ | with_reducible apply And.intro | with_reducible refine Exists.intro gs115 ?_ | with_reducible refine Im.and ?_ ?_))); all_goals (first | assumption | trivial | ((with_reducible refine Im.i fun hf_ => ?_); first | exact (A169 hf_) | exact (Gu98 hf_) | exact (Ku97 hf_) | exact (Ou95 hf_).cst | exact (Lu96 hf_) | exact ok1.i | (exact LI.z (fun h => absurd h (by decide))) | (exact absurd hf_ (by omega)) | omega) | (unfold NBP; (try simp only [Ks169]); omega) | (unfold NBQ; (try simp only [Ks169]); omega) | omega | (have zz_ := fz_z (by assumption); omega) | (split <;> omega) | done))
                · refine ⟨(by (try simp only [pre_X14_dots_t, Ks169]); (all_goals (repeat' (first | with_reducible intro _ | with_reducible apply And.intro | with_reducible refine Exists.intro gs115 ?_ | with_reducible refine Im.and ?_ ?_))); all_goals (first | assumption | trivial | ((with_reducible refine Im.i fun hf_ => ?_); first | exact (A169 hf_) | exact (Gu98 hf_) | exact (Ku97 hf_) | exact (Ou95 hf_).cst | exact (Lu96 hf_) | exact ok1.i | (exact LI.z (fun h => absurd h (by decide))) | (exact absurd hf_ (by omega)) | omega) | (unfold NBP; (try simp only [Ks169]); omega) | (unfold NBQ; (try simp only [Ks169]); omega) | omega | (have zz_ := fz_z (by assumption); omega) | (split <;> omega) | done)), ?_⟩
                  intro s185 Ws185 e185_0 e185_1 e185_2 e185_3 e185_4 e185_5 e185_6 e185_7 e185_8 e185_9 e185_10 e185_11 e185_12 e185_13 e185_14 e185_15 e185_16 e185_17 e185_18 e185_19 e185_20 q185
                  unfold post_X14_dots_t at q185
                  obtain ⟨q185_1, q185_2, q185_3, q185_4, q185_5, q185_6⟩ := q185
                  (try simp only [Ks169, NBP, NBQ] at q185_1 q185_2 q185_3 q185_4 q185_5 q185_6 e185_0 e185_1 e185_2 e185_3 e185_4 e185_5 e185_6 e185_7 e185_8 e185_9 e185_10 e185_11 e185_12 e185_13 e185_14 e185_15 e185_16 e185_17 e185_18 e185_19 e185_20)
                  have Ks185 : rR s185 7 = rR σ 7 := by first | assumption | ((try simp only [rR_sF, rR_sA, rR_sT, rR_sL] at e185_0 e185_1 e185_2 e185_3 e185_4 e185_5 e185_6 e185_7 e185_8 e185_9 e185_10 e185_11 e185_12 e185_13 e185_14 e185_15 e185_16 e185_17 e185_18 e185_19 e185_20); omega)
                  have zr185 := fz_rng s185
                  have zc185 : fz s185 = 0 → fz s169 = 0 := fun hf => by omega
                  have A185 : Im (fz s185 = 0) (RG σ s185 (rR σ 7) x1) := fun hf => RG.trk hp_2 (A169 (zc185 hf)) (q185_4 (by omega)) (by omega)
                  have Ou99 : Im (fz s185 = 0) _ := fun hf => OP.gk0 (Ou95 (zc185 hf)) (GK.up (g := gs115) (N := rF s169 (rR σ 7) 7) (N' := rF s185 (rR σ 7) 7) (c := 0) (by first | assumption | omega | (simp only [rF_sT, rF_sA]; omega)))
                  have Lu100 : Im (fz s185 = 0) _ := fun hf => LI.gk0 hp_2 (Lu96 (zc185 hf)) (Ou95 (zc185 hf)) (q185_4 (by omega)) (GK.up (g := gs115) (N := rF s169 (rR σ 7) 7) (N' := rF s185 (rR σ 7) 7) (c := 0) (by first | assumption | omega | (simp only [rF_sT, rF_sA]; omega)))
                  have Ku101 : Im (fz s185 = 0) (GK g gs115 (rF σ (rR σ 7) 7) (rF s185 (rR σ 7) 7) x1) := fun hf => GK.trans (Ku97 (zc185 hf)) (GK.up (N := rF s169 (rR σ 7) 7) (N' := rF s185 (rR σ 7) 7) (c := 0) (by first | assumption | omega | (simp only [rF_sT, rF_sA]; omega))) (Or.inr (Or.inl rfl))
                  have Gu102 : Im (fz s185 = 0) (GS s185 (rR σ 7) gs115) := fun hf => GS.c3 hp_2 (Gu98 (zc185 hf)) (Ou95 (zc185 hf)) hp_12 (q185_4 (by omega)) (q185_6 (by omega))
                  have rNMp_185 := e185_0 rNMp_169; clear e185_0
                  have TPRp_185 := e185_1 TPRp_169; clear e185_1
                  have WNp_185 := e185_2 WNp_169; clear e185_2
                  have PNp_185 := e185_3 PNp_169; clear e185_3
                  have CCp_185 := e185_4 CCp_169; clear e185_4
                  exact (by (try simp only [post_X14_readArgs, Ks185]); (all_goals (repeat' (first | with_reducible intro _ | with_reducible apply And.intro | with_reducible refine Exists.intro gs115 ?_ | with_reducible refine Im.and ?_ ?_))); all_goals (first | assumption | trivial | ((with_reducible refine Im.i fun hf_ => ?_); first | exact (A185 hf_) | exact (Gu102 hf_) | exact (Ku101 hf_) | exact (Ou99 hf_).cst | exact (Lu100 hf_) | exact ok1.i | (exact LI.z (fun h => absurd h (by decide))) | (exact absurd hf_ (by omega)) | omega) | (unfold NBP; (try simp only [Ks185]); omega) | (unfold NBQ; (try simp only [Ks185]); omega) | omega | (have zz_ := fz_z (by assumption); omega) | (split <;> omega) | done))
        · have z97 := fz_n c97
          exact (by (try simp only [post_X14_readArgs, Ks73]); (all_goals (repeat' (first | with_reducible intro _ | with_reducible apply And.intro | with_reducible refine Exists.intro g73 ?_ | with_reducible refine Im.and ?_ ?_))); all_goals (first | assumption | trivial | ((with_reducible refine Im.i fun hf_ => ?_); first | exact (A73 hf_) | exact (Gu70 hf_) | exact (Ku69 hf_) | exact (Ou67 hf_).cst | exact (Lu68 hf_) | exact (r73 hf_).cst | exact ok1.i | (exact LI.z (fun h => absurd h (by decide))) | (exact absurd hf_ (by omega)) | omega) | (unfold NBP; (try simp only [Ks73]); omega) | (unfold NBQ; (try simp only [Ks73]); omega) | omega | (have zz_ := fz_z (by assumption); omega) | (split <;> omega) | done))
set_option maxHeartbeats 20000000 in
theorem vX14_readArgs_55m (n : Nat) (σ : rS) (x1 : Int) (gg : Nat) (g : Nat → Int → Int) (K : Nat) (hwf : rWF σ) (hx1 : rng x1) (hp : pre_X14_readArgs σ x1 gg g K) (hr : rk_X14_readArgs σ x1 gg g K ≤ n + 1) : VC_X14_readArgs_55m n σ x1 gg g K := by
  unfold pre_X14_readArgs at hp
  obtain ⟨hp_1, hp_2, hp_3, hp_4, hp_5, hp_6, hp_7, hp_8, hp_9, hp_10, hp_11, hp_12, hp_13, hp_14⟩ := hp
  unfold rng at hx1
  subst hp_1
  unfold rk_X14_readArgs at hr
  have hN := hp_4
  unfold NBP at hN
  have hC := hp_3
  unfold CCp at hC
  obtain ⟨hC1, hC⟩ := hC
  have zr0 := fz_rng σ
  have hr2 : fz σ = 0 → 16 * (21 - rF σ 0 31).toNat + 3 ≤ n + 1 := fun h => by rw [if_pos h] at hr; exact hr
  have hr3 : 3 ≤ n + 1 := by have := hr; split at this <;> omega
  clear hr
  unfold VC_X14_readArgs_55m
  (try simp only [inv_X14_readArgs_55, mu_X14_readArgs_55]); (all_goals (repeat' (first | with_reducible intro _ | with_reducible apply And.intro))); all_goals (first | assumption | omega | grind (splits := 20))
