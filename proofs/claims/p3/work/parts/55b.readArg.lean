set_option maxHeartbeats 20000000 in
theorem vX14_readArg (n : Nat) (σ : rS) (gg : Nat) (g : Nat → Int → Int) (hwf : rWF σ) (hp : pre_X14_readArg σ gg g) (hr : rk_X14_readArg σ gg g ≤ n + 1) : VC_X14_readArg n σ gg g (post_X14_readArg σ gg g) := by
  unfold pre_X14_readArg at hp
  obtain ⟨hp_1, hp_2, hp_3, hp_4, hp_5, hp_6, hp_7, hp_8⟩ := hp
  subst hp_1
  unfold rk_X14_readArg at hr
  have hN := hp_4
  unfold NBP at hN
  have hC := hp_3
  unfold CCp at hC
  obtain ⟨hC1, hC⟩ := hC
  have zr0 := fz_rng σ
  have hr2 : fz σ = 0 → 16 * (21 - rF σ 0 31).toNat + 1 ≤ n + 1 := fun h => by rw [if_pos h] at hr; exact hr
  have hr3 : 1 ≤ n + 1 := by have := hr; split at this <;> omega
  clear hr
  unfold VC_X14_readArg
  refine ⟨(by (all_goals (repeat' (first | with_reducible intro _ | with_reducible apply And.intro))); all_goals (first | assumption | trivial | (unfold NBP; omega) | (unfold NBQ; omega) | omega | (have zz_ := fz_z (by assumption); omega) | (split <;> omega) | done)), ?_⟩
  refine ⟨(by (try simp only [pre_X14_blanks]); (all_goals (repeat' (first | with_reducible intro _ | with_reducible apply And.intro | with_reducible refine Exists.intro g ?_ | with_reducible refine Im.and ?_ ?_))); all_goals (first | assumption | trivial | ((with_reducible refine Im.i fun hf_ => ?_); first | exact ((fun _ => RG.rf) hf_) | exact (hp_8 hf_) | exact ((fun _ => GK.rf) hf_) | exact ok1.i | (exact LI.z (fun h => absurd h (by decide))) | (exact absurd hf_ (by omega)) | omega) | (unfold NBP; omega) | (unfold NBQ; omega) | omega | (have zz_ := fz_z (by assumption); omega) | (split <;> omega) | done)), ?_⟩
  intro s1 Ws1 e1_0 e1_1 e1_2 e1_3 e1_4 e1_5 e1_6 e1_7 e1_8 e1_9 e1_10 e1_11 e1_12 e1_13 e1_14 e1_15 e1_16 e1_17 e1_18 e1_19 e1_20 e1_21 e1_22 R1 q1
  have q1 := dig_blanks q1 (by omega)
  obtain ⟨q1_1, q1_2⟩ := q1
  (try simp only [NBP, NBQ] at q1_1 q1_2 e1_0 e1_1 e1_2 e1_3 e1_4 e1_5 e1_6 e1_7 e1_8 e1_9 e1_10 e1_11 e1_12 e1_13 e1_14 e1_15 e1_16 e1_17 e1_18 e1_19 e1_20 e1_21 e1_22 R1)
  have Ks1 : rR s1 7 = rR σ 7 := by first | assumption | ((try simp only [rR_sF, rR_sA, rR_sT, rR_sL] at e1_0 e1_1 e1_2 e1_3 e1_4 e1_5 e1_6 e1_7 e1_8 e1_9 e1_10 e1_11 e1_12 e1_13 e1_14 e1_15 e1_16 e1_17 e1_18 e1_19 e1_20 e1_21 e1_22 R1); omega)
  have zr1 := fz_rng s1
  have zc1 : fz s1 = 0 → fz σ = 0 := fun hf => by omega
  have A1 : Im (fz s1 = 0) (RG σ s1 (rR σ 7) 0) := fun hf => RG.trk hp_2 ((fun _ => RG.rf) (zc1 hf)) R1 (Or.inr (Or.inl rfl))
  have Ku1 : Im (fz s1 = 0) (GK g g (rF σ (rR σ 7) 7) (rF s1 (rR σ 7) 7) 0) := fun hf => GK.trans ((fun _ => GK.rf) (zc1 hf)) (GK.up (N := rF σ (rR σ 7) 7) (N' := rF s1 (rR σ 7) 7) (c := 0) (by first | assumption | omega | (simp only [rF_sT, rF_sA]; omega))) (Or.inr (Or.inl rfl))
  have Gu2 : Im (fz s1 = 0) (GS s1 (rR σ 7) g) := fun hf => GS.mv hp_2 (hp_8 (zc1 hf)) R1 (by first | assumption | omega | (simp only [rF_sT, rF_sA]; omega)) (by first | (exact Int.le_of_eq (Eq.symm (by assumption))) | omega | (simp only [rF_sT, rF_sA]; omega))
  have rNMp_1 := e1_0 hp_5; clear e1_0
  have TPRp_1 := e1_1 hC1; clear e1_1
  have WNp_1 := e1_2 hp_6; clear e1_2
  have PNp_1 := e1_3 hp_7; clear e1_3
  have CCp_1 := e1_4 hp_3; clear e1_4
  intro hr_; unfold rng at hr_
  refine ⟨fun c8 => ?_, fun c8 => ?_⟩
  · have z8 := fz_z c8
    intro hr_; unfold rng at hr_
    refine ⟨fun c19 => ?_, fun c19 => ?_⟩
    · refine ⟨(by (try simp only [rng, Ks1]); (all_goals (repeat' (first | with_reducible intro _ | with_reducible apply And.intro | with_reducible refine Exists.intro g ?_ | with_reducible refine Im.and ?_ ?_))); all_goals (first | assumption | trivial | ((with_reducible refine Im.i fun hf_ => ?_); first | exact (A1 hf_) | exact (Gu2 hf_) | exact (Ku1 hf_) | exact ok1.i | (exact LI.z (fun h => absurd h (by decide))) | (exact absurd hf_ (by omega)) | omega) | (unfold NBP; (try simp only [Ks1]); omega) | (unfold NBQ; (try simp only [Ks1]); omega) | omega | (have zz_ := fz_z (by assumption); omega) | (split <;> omega) | done)), ?_⟩
      refine ⟨g, ?_⟩
      refine ⟨(by (try simp only [pre_X14_readMember, reduceIte, and_true, true_and, and_false, false_and, and_self, Nat.reduceEqDiff, fz_sF31, rF_sF, rA_sF, rR_sF, tr_sF, rNMp_sF, PNp_sF, GS_F31, OP_F31, NR_F31, LI_F31, RG_l31, RG_r31, TPRp_sF31, WNp_sF31, VMp_sF31, KYp_sF31, PPp_sF31, WFp_sF31, CCp_sF31, rk_n0 hp_2, Ks1]); (all_goals (repeat' (first | with_reducible intro _ | with_reducible apply And.intro | with_reducible refine Exists.intro g ?_ | with_reducible refine Im.and ?_ ?_))); all_goals (first | assumption | trivial | ((with_reducible refine Im.i fun hf_ => ?_); first | exact (A1 hf_) | exact (Gu2 hf_) | exact (Ku1 hf_) | exact ok1.i | (exact LI.z (fun h => absurd h (by decide))) | (exact absurd hf_ (by omega)) | omega) | (unfold NBP; (try simp only [reduceIte, and_true, true_and, and_false, false_and, and_self, Nat.reduceEqDiff, fz_sF31, rF_sF, rA_sF, rR_sF, tr_sF, rNMp_sF, PNp_sF, GS_F31, OP_F31, NR_F31, LI_F31, RG_l31, RG_r31, TPRp_sF31, WNp_sF31, VMp_sF31, KYp_sF31, PPp_sF31, WFp_sF31, CCp_sF31, rk_n0 hp_2, Ks1]); omega) | (unfold NBQ; (try simp only [reduceIte, and_true, true_and, and_false, false_and, and_self, Nat.reduceEqDiff, fz_sF31, rF_sF, rA_sF, rR_sF, tr_sF, rNMp_sF, PNp_sF, GS_F31, OP_F31, NR_F31, LI_F31, RG_l31, RG_r31, TPRp_sF31, WNp_sF31, VMp_sF31, KYp_sF31, PPp_sF31, WFp_sF31, CCp_sF31, rk_n0 hp_2, Ks1]); omega) | omega | (have zz_ := fz_z (by assumption); omega) | (split <;> omega) | done)), ?_⟩
      refine ⟨(by (try simp only [rk_X14_readMember, reduceIte, and_true, true_and, and_false, false_and, and_self, Nat.reduceEqDiff, fz_sF31, rF_sF, rA_sF, rR_sF, tr_sF, rNMp_sF, PNp_sF, GS_F31, OP_F31, NR_F31, LI_F31, RG_l31, RG_r31, TPRp_sF31, WNp_sF31, VMp_sF31, KYp_sF31, PPp_sF31, WFp_sF31, CCp_sF31, rk_n0 hp_2, Ks1]); (all_goals (repeat' (first | with_reducible intro _ | with_reducible apply And.intro | with_reducible refine Exists.intro g ?_ | with_reducible refine Im.and ?_ ?_))); all_goals (first | assumption | trivial | ((with_reducible refine Im.i fun hf_ => ?_); first | exact (A1 hf_) | exact (Gu2 hf_) | exact (Ku1 hf_) | exact ok1.i | (exact LI.z (fun h => absurd h (by decide))) | (exact absurd hf_ (by omega)) | omega) | (unfold NBP; (try simp only [reduceIte, and_true, true_and, and_false, false_and, and_self, Nat.reduceEqDiff, fz_sF31, rF_sF, rA_sF, rR_sF, tr_sF, rNMp_sF, PNp_sF, GS_F31, OP_F31, NR_F31, LI_F31, RG_l31, RG_r31, TPRp_sF31, WNp_sF31, VMp_sF31, KYp_sF31, PPp_sF31, WFp_sF31, CCp_sF31, rk_n0 hp_2, Ks1]); omega) | (unfold NBQ; (try simp only [reduceIte, and_true, true_and, and_false, false_and, and_self, Nat.reduceEqDiff, fz_sF31, rF_sF, rA_sF, rR_sF, tr_sF, rNMp_sF, PNp_sF, GS_F31, OP_F31, NR_F31, LI_F31, RG_l31, RG_r31, TPRp_sF31, WNp_sF31, VMp_sF31, KYp_sF31, PPp_sF31, WFp_sF31, CCp_sF31, rk_n0 hp_2, Ks1]); omega) | omega | (have zz_ := fz_z (by assumption); omega) | (split <;> omega) | done)), ?_⟩
      intro v45 s45 hv45 Ws45 e45_0 e45_1 e45_2 e45_3 e45_4 e45_5 e45_6 e45_7 e45_8 e45_9 q45
      unfold rng at hv45
      unfold post_X14_readMember at q45
      obtain ⟨q45_1, q45_2, q45_3, q45_4, q45_5, q45_6, q45_7, q45_8, q45_9⟩ := q45
      (try simp only [reduceIte, and_true, true_and, and_false, false_and, and_self, Nat.reduceEqDiff, fz_sF31, rF_sF, rA_sF, rR_sF, tr_sF, rNMp_sF, PNp_sF, GS_F31, OP_F31, NR_F31, LI_F31, RG_l31, RG_r31, TPRp_sF31, WNp_sF31, VMp_sF31, KYp_sF31, PPp_sF31, WFp_sF31, CCp_sF31, rk_n0 hp_2, Ks1, NBP, NBQ] at q45_1 q45_2 q45_3 q45_4 q45_5 q45_6 q45_7 q45_8 q45_9 e45_0 e45_1 e45_2 e45_3 e45_4 e45_5 e45_6 e45_7 e45_8 e45_9)
      have Ks45 : rR s45 7 = rR σ 7 := by first | assumption | ((try simp only [rR_sF, rR_sA, rR_sT, rR_sL] at e45_0 e45_1 e45_2 e45_3 e45_4 e45_5 e45_6 e45_7 e45_8 e45_9); omega)
      have zr45 := fz_rng s45
      have zc45 : fz s45 = 0 → fz s1 = 0 := fun hf => by omega
      have A45 : Im (fz s45 = 0) (RG σ s45 (rR σ 7) 0) := fun hf => RG.trk hp_2 (A1 (zc45 hf)) (q45_8 (by omega)) (Or.inr (Or.inl rfl))
      obtain ⟨g45, X45⟩ := q45_9
      have Ku3 : Im (fz s45 = 0) (GK g g45 (rF σ (rR σ 7) 7) (rF s45 (rR σ 7) 7) 0) := fun hf => GK.trans (Ku1 (zc45 hf)) ((X45 hf).2.1) (Or.inr (Or.inl rfl))
      have Gu4 : Im (fz s45 = 0) (GS s45 (rR σ 7) g45) := fun hf => (X45 hf).1
      have r45 : Im (fz s45 = 0) _ := fun hf => (X45 hf).2.2.1
      have TPRp_45 := e45_0 TPRp_1; clear e45_0
      have CCp_45 := e45_1 CCp_1; clear e45_1
      obtain ⟨gu5, Xu6⟩ := EG_41 (P := fz s45 = 0) Gu4 r45 (fun hf => by omega)
      have r45u7 : Im (fz s45 = 0) _ := fun hf => (Xu6 hf).2.1
      have Ku10 : Im (fz s45 = 0) (GK g gu5 (rF σ (rR σ 7) 7) (rF s45 (rR σ 7) 7) 0) := fun hf => GK.kc (Ku3 hf) (Xu6 hf).2.2 (by omega)
      have Gu11 : Im (fz s45 = 0) _ := fun hf => (Xu6 hf).1
      refine ⟨(by (try simp only [pre_X14_blanks, Ks45]); (all_goals (repeat' (first | with_reducible intro _ | with_reducible apply And.intro | with_reducible refine Exists.intro gu5 ?_ | with_reducible refine Im.and ?_ ?_))); all_goals (first | assumption | trivial | ((with_reducible refine Im.i fun hf_ => ?_); first | exact (A45 hf_) | exact (Gu11 hf_) | exact (Ku10 hf_) | exact (r45u7 hf_).cst | exact ok1.i | (exact LI.z (fun h => absurd h (by decide))) | (exact absurd hf_ (by omega)) | omega) | (unfold NBP; (try simp only [Ks45]); omega) | (unfold NBQ; (try simp only [Ks45]); omega) | omega | (have zz_ := fz_z (by assumption); omega) | (split <;> omega) | done)), ?_⟩
      intro s52 Ws52 e52_0 e52_1 e52_2 e52_3 e52_4 e52_5 e52_6 e52_7 e52_8 e52_9 e52_10 e52_11 e52_12 e52_13 e52_14 e52_15 e52_16 e52_17 e52_18 e52_19 e52_20 e52_21 e52_22 R52 q52
      have q52 := dig_blanks q52 (by (try simp only [Ks45]); omega)
      obtain ⟨q52_1, q52_2⟩ := q52
      (try simp only [Ks45, NBP, NBQ] at q52_1 q52_2 e52_0 e52_1 e52_2 e52_3 e52_4 e52_5 e52_6 e52_7 e52_8 e52_9 e52_10 e52_11 e52_12 e52_13 e52_14 e52_15 e52_16 e52_17 e52_18 e52_19 e52_20 e52_21 e52_22 R52)
      have Ks52 : rR s52 7 = rR σ 7 := by first | assumption | ((try simp only [rR_sF, rR_sA, rR_sT, rR_sL] at e52_0 e52_1 e52_2 e52_3 e52_4 e52_5 e52_6 e52_7 e52_8 e52_9 e52_10 e52_11 e52_12 e52_13 e52_14 e52_15 e52_16 e52_17 e52_18 e52_19 e52_20 e52_21 e52_22 R52); omega)
      have zr52 := fz_rng s52
      have zc52 : fz s52 = 0 → fz s45 = 0 := fun hf => by omega
      have A52 : Im (fz s52 = 0) (RG σ s52 (rR σ 7) 0) := fun hf => RG.trk hp_2 (A45 (zc52 hf)) R52 (Or.inr (Or.inl rfl))
      have r45u12 : Im (fz s52 = 0) _ := fun hf => OP.gk0 (r45u7 (zc52 hf)) (GK.up (g := gu5) (N := rF s45 (rR σ 7) 7) (N' := rF s52 (rR σ 7) 7) (c := 0) (by first | assumption | omega | (simp only [rF_sT, rF_sA]; omega)))
      have Ku13 : Im (fz s52 = 0) (GK g gu5 (rF σ (rR σ 7) 7) (rF s52 (rR σ 7) 7) 0) := fun hf => GK.trans (Ku10 (zc52 hf)) (GK.up (N := rF s45 (rR σ 7) 7) (N' := rF s52 (rR σ 7) 7) (c := 0) (by first | assumption | omega | (simp only [rF_sT, rF_sA]; omega))) (Or.inr (Or.inl rfl))
      have Gu14 : Im (fz s52 = 0) (GS s52 (rR σ 7) gu5) := fun hf => GS.mv hp_2 (Gu11 (zc52 hf)) R52 (by first | assumption | omega | (simp only [rF_sT, rF_sA]; omega)) (by first | (exact Int.le_of_eq (Eq.symm (by assumption))) | omega | (simp only [rF_sT, rF_sA]; omega))
      have rNMp_52 := e52_0 q45_2; clear e52_0
      have TPRp_52 := e52_1 TPRp_45; clear e52_1
      have WNp_52 := e52_2 q45_3; clear e52_2
      have PNp_52 := e52_3 q45_4; clear e52_3
      have CCp_52 := e52_4 CCp_45; clear e52_4
      exact (by (try simp only [inv_X14_readArg_55, Ks52]); (all_goals (repeat' (first | with_reducible intro _ | with_reducible apply And.intro | with_reducible refine Exists.intro gu5 ?_ | with_reducible refine Im.and ?_ ?_))); all_goals (first | assumption | trivial | ((with_reducible refine Im.i fun hf_ => ?_); first | exact (A52 hf_) | exact (Gu14 hf_) | exact (Ku13 hf_) | exact (r45u12 hf_).cst | exact ok1.i | (exact LI.z (fun h => absurd h (by decide))) | (exact absurd hf_ (by omega)) | omega) | (unfold NBP; (try simp only [Ks52]); omega) | (unfold NBQ; (try simp only [Ks52]); omega) | omega | (have zz_ := fz_z (by assumption); omega) | (split <;> omega) | done))
    · refine ⟨(by (try simp only [pre_X14_lowest, Ks1]); (all_goals (repeat' (first | with_reducible intro _ | with_reducible apply And.intro | with_reducible refine Exists.intro g ?_ | with_reducible refine Im.and ?_ ?_))); all_goals (first | assumption | trivial | ((with_reducible refine Im.i fun hf_ => ?_); first | exact (A1 hf_) | exact (Gu2 hf_) | exact (Ku1 hf_) | exact ok1.i | (exact LI.z (fun h => absurd h (by decide))) | (exact absurd hf_ (by omega)) | omega) | (unfold NBP; (try simp only [Ks1]); omega) | (unfold NBQ; (try simp only [Ks1]); omega) | omega | (have zz_ := fz_z (by assumption); omega) | (split <;> omega) | done)), ?_⟩
      intro v24 hv24 q24
      unfold rng at hv24
      unfold post_X14_lowest at q24
      obtain ⟨q24_1, q24_2⟩ := q24
      (try simp only [Ks1, NBP, NBQ] at q24_1 q24_2)
      refine ⟨(by (try simp only [pre_X14_place, Ks1]); (all_goals (repeat' (first | with_reducible intro _ | with_reducible apply And.intro | with_reducible refine Exists.intro g ?_ | with_reducible refine Im.and ?_ ?_))); all_goals (first | assumption | trivial | ((with_reducible refine Im.i fun hf_ => ?_); first | exact (A1 hf_) | exact (Gu2 hf_) | exact (Ku1 hf_) | exact ok1.i | (exact LI.z (fun h => absurd h (by decide))) | (exact absurd hf_ (by omega)) | omega) | (unfold NBP; (try simp only [Ks1]); omega) | (unfold NBQ; (try simp only [Ks1]); omega) | omega | (have zz_ := fz_z (by assumption); omega) | (split <;> omega) | done)), ?_⟩
      intro v28 hv28 q28
      unfold rng at hv28
      unfold post_X14_place at q28
      obtain ⟨q28_1, q28_2⟩ := q28
      (try simp only [Ks1, NBP, NBQ] at q28_1 q28_2)
      refine ⟨(by (try simp only [pre_X14_bad, Ks1]); (all_goals (repeat' (first | with_reducible intro _ | with_reducible apply And.intro | with_reducible refine Exists.intro g ?_ | with_reducible refine Im.and ?_ ?_))); all_goals (first | assumption | trivial | ((with_reducible refine Im.i fun hf_ => ?_); first | exact (A1 hf_) | exact (Gu2 hf_) | exact (Ku1 hf_) | exact ok1.i | (exact LI.z (fun h => absurd h (by decide))) | (exact absurd hf_ (by omega)) | omega) | (unfold NBP; (try simp only [Ks1]); omega) | (unfold NBQ; (try simp only [Ks1]); omega) | omega | (have zz_ := fz_z (by assumption); omega) | (split <;> omega) | done)), ?_⟩
      intro s31 Ws31 e31_0 e31_1 e31_2 e31_3 e31_4 e31_5 e31_6 e31_7 e31_8 e31_9 e31_10 e31_11 e31_12 e31_13 e31_14 e31_15 e31_16 e31_17 e31_18 e31_19 e31_20 e31_21 R31 q31
      have q31 := dig_bad q31 (by (try simp only [Ks1]); omega)
      obtain ⟨q31_1, q31_2⟩ := q31
      (try simp only [Ks1, NBP, NBQ] at q31_1 q31_2 e31_0 e31_1 e31_2 e31_3 e31_4 e31_5 e31_6 e31_7 e31_8 e31_9 e31_10 e31_11 e31_12 e31_13 e31_14 e31_15 e31_16 e31_17 e31_18 e31_19 e31_20 e31_21 R31)
      have Ks31 : rR s31 7 = rR σ 7 := by first | assumption | ((try simp only [rR_sF, rR_sA, rR_sT, rR_sL] at e31_0 e31_1 e31_2 e31_3 e31_4 e31_5 e31_6 e31_7 e31_8 e31_9 e31_10 e31_11 e31_12 e31_13 e31_14 e31_15 e31_16 e31_17 e31_18 e31_19 e31_20 e31_21 R31); omega)
      have zr31 := fz_rng s31
      have zc31 : fz s31 = 0 → fz s1 = 0 := fun hf => by omega
      have A31 : Im (fz s31 = 0) (RG σ s31 (rR σ 7) 0) := fun hf => RG.trk hp_2 (A1 (zc31 hf)) R31 (Or.inr (Or.inl rfl))
      have Ku63 : Im (fz s31 = 0) (GK g g (rF σ (rR σ 7) 7) (rF s31 (rR σ 7) 7) 0) := fun hf => GK.trans (Ku1 (zc31 hf)) (GK.up (N := rF s1 (rR σ 7) 7) (N' := rF s31 (rR σ 7) 7) (c := 0) (by first | assumption | omega | (simp only [rF_sT, rF_sA]; omega))) (Or.inr (Or.inl rfl))
      have Gu64 : Im (fz s31 = 0) (GS s31 (rR σ 7) g) := fun hf => GS.mv hp_2 (Gu2 (zc31 hf)) R31 (by first | assumption | omega | (simp only [rF_sT, rF_sA]; omega)) (by first | (exact Int.le_of_eq (Eq.symm (by assumption))) | omega | (simp only [rF_sT, rF_sA]; omega))
      have rNMp_31 := e31_0 rNMp_1; clear e31_0
      have TPRp_31 := e31_1 TPRp_1; clear e31_1
      have WNp_31 := e31_2 WNp_1; clear e31_2
      have PNp_31 := e31_3 PNp_1; clear e31_3
      have CCp_31 := e31_4 CCp_1; clear e31_4
      refine ⟨(by (try simp only [rng, Ks31]); (all_goals (repeat' (first | with_reducible intro _ | with_reducible apply And.intro | with_reducible refine Exists.intro g ?_ | with_reducible refine Im.and ?_ ?_))); all_goals (first | assumption | trivial | ((with_reducible refine Im.i fun hf_ => ?_); first | exact (A31 hf_) | exact (Gu64 hf_) | exact (Ku63 hf_) | exact ok1.i | (exact LI.z (fun h => absurd h (by decide))) | (exact absurd hf_ (by omega)) | omega) | (unfold NBP; (try simp only [Ks31]); omega) | (unfold NBQ; (try simp only [Ks31]); omega) | omega | (have zz_ := fz_z (by assumption); omega) | (split <;> omega) | done)), ?_⟩
      refine ⟨g, ?_⟩
      refine ⟨(by (try simp only [pre_X14_readMember, reduceIte, and_true, true_and, and_false, false_and, and_self, Nat.reduceEqDiff, fz_sF31, rF_sF, rA_sF, rR_sF, tr_sF, rNMp_sF, PNp_sF, GS_F31, OP_F31, NR_F31, LI_F31, RG_l31, RG_r31, TPRp_sF31, WNp_sF31, VMp_sF31, KYp_sF31, PPp_sF31, WFp_sF31, CCp_sF31, rk_n0 hp_2, Ks31]); (all_goals (repeat' (first | with_reducible intro _ | with_reducible apply And.intro | with_reducible refine Exists.intro g ?_ | with_reducible refine Im.and ?_ ?_))); all_goals (first | assumption | trivial | ((with_reducible refine Im.i fun hf_ => ?_); first | exact (A31 hf_) | exact (Gu64 hf_) | exact (Ku63 hf_) | exact ok1.i | (exact LI.z (fun h => absurd h (by decide))) | (exact absurd hf_ (by omega)) | omega) | (unfold NBP; (try simp only [reduceIte, and_true, true_and, and_false, false_and, and_self, Nat.reduceEqDiff, fz_sF31, rF_sF, rA_sF, rR_sF, tr_sF, rNMp_sF, PNp_sF, GS_F31, OP_F31, NR_F31, LI_F31, RG_l31, RG_r31, TPRp_sF31, WNp_sF31, VMp_sF31, KYp_sF31, PPp_sF31, WFp_sF31, CCp_sF31, rk_n0 hp_2, Ks31]); omega) | (unfold NBQ; (try simp only [reduceIte, and_true, true_and, and_false, false_and, and_self, Nat.reduceEqDiff, fz_sF31, rF_sF, rA_sF, rR_sF, tr_sF, rNMp_sF, PNp_sF, GS_F31, OP_F31, NR_F31, LI_F31, RG_l31, RG_r31, TPRp_sF31, WNp_sF31, VMp_sF31, KYp_sF31, PPp_sF31, WFp_sF31, CCp_sF31, rk_n0 hp_2, Ks31]); omega) | omega | (have zz_ := fz_z (by assumption); omega) | (split <;> omega) | done)), ?_⟩
      refine ⟨(by (try simp only [rk_X14_readMember, reduceIte, and_true, true_and, and_false, false_and, and_self, Nat.reduceEqDiff, fz_sF31, rF_sF, rA_sF, rR_sF, tr_sF, rNMp_sF, PNp_sF, GS_F31, OP_F31, NR_F31, LI_F31, RG_l31, RG_r31, TPRp_sF31, WNp_sF31, VMp_sF31, KYp_sF31, PPp_sF31, WFp_sF31, CCp_sF31, rk_n0 hp_2, Ks31]); (all_goals (repeat' (first | with_reducible intro _ | with_reducible apply And.intro | with_reducible refine Exists.intro g ?_ | with_reducible refine Im.and ?_ ?_))); all_goals (first | assumption | trivial | ((with_reducible refine Im.i fun hf_ => ?_); first | exact (A31 hf_) | exact (Gu64 hf_) | exact (Ku63 hf_) | exact ok1.i | (exact LI.z (fun h => absurd h (by decide))) | (exact absurd hf_ (by omega)) | omega) | (unfold NBP; (try simp only [reduceIte, and_true, true_and, and_false, false_and, and_self, Nat.reduceEqDiff, fz_sF31, rF_sF, rA_sF, rR_sF, tr_sF, rNMp_sF, PNp_sF, GS_F31, OP_F31, NR_F31, LI_F31, RG_l31, RG_r31, TPRp_sF31, WNp_sF31, VMp_sF31, KYp_sF31, PPp_sF31, WFp_sF31, CCp_sF31, rk_n0 hp_2, Ks31]); omega) | (unfold NBQ; (try simp only [reduceIte, and_true, true_and, and_false, false_and, and_self, Nat.reduceEqDiff, fz_sF31, rF_sF, rA_sF, rR_sF, tr_sF, rNMp_sF, PNp_sF, GS_F31, OP_F31, NR_F31, LI_F31, RG_l31, RG_r31, TPRp_sF31, WNp_sF31, VMp_sF31, KYp_sF31, PPp_sF31, WFp_sF31, CCp_sF31, rk_n0 hp_2, Ks31]); omega) | omega | (have zz_ := fz_z (by assumption); omega) | (split <;> omega) | done)), ?_⟩
      intro v45 s45 hv45 Ws45 e45_0 e45_1 e45_2 e45_3 e45_4 e45_5 e45_6 e45_7 e45_8 e45_9 q45
      unfold rng at hv45
      unfold post_X14_readMember at q45
      obtain ⟨q45_1, q45_2, q45_3, q45_4, q45_5, q45_6, q45_7, q45_8, q45_9⟩ := q45
      (try simp only [reduceIte, and_true, true_and, and_false, false_and, and_self, Nat.reduceEqDiff, fz_sF31, rF_sF, rA_sF, rR_sF, tr_sF, rNMp_sF, PNp_sF, GS_F31, OP_F31, NR_F31, LI_F31, RG_l31, RG_r31, TPRp_sF31, WNp_sF31, VMp_sF31, KYp_sF31, PPp_sF31, WFp_sF31, CCp_sF31, rk_n0 hp_2, Ks31, NBP, NBQ] at q45_1 q45_2 q45_3 q45_4 q45_5 q45_6 q45_7 q45_8 q45_9 e45_0 e45_1 e45_2 e45_3 e45_4 e45_5 e45_6 e45_7 e45_8 e45_9)
      have Ks45 : rR s45 7 = rR σ 7 := by first | assumption | ((try simp only [rR_sF, rR_sA, rR_sT, rR_sL] at e45_0 e45_1 e45_2 e45_3 e45_4 e45_5 e45_6 e45_7 e45_8 e45_9); omega)
      have zr45 := fz_rng s45
      have zc45 : fz s45 = 0 → fz s31 = 0 := fun hf => by omega
      have A45 : Im (fz s45 = 0) (RG σ s45 (rR σ 7) 0) := fun hf => RG.trk hp_2 (A31 (zc45 hf)) (q45_8 (by omega)) (Or.inr (Or.inl rfl))
      obtain ⟨g45, X45⟩ := q45_9
      have Ku65 : Im (fz s45 = 0) (GK g g45 (rF σ (rR σ 7) 7) (rF s45 (rR σ 7) 7) 0) := fun hf => GK.trans (Ku63 (zc45 hf)) ((X45 hf).2.1) (Or.inr (Or.inl rfl))
      have Gu66 : Im (fz s45 = 0) (GS s45 (rR σ 7) g45) := fun hf => (X45 hf).1
      have r45 : Im (fz s45 = 0) _ := fun hf => (X45 hf).2.2.1
      have TPRp_45 := e45_0 TPRp_31; clear e45_0
      have CCp_45 := e45_1 CCp_31; clear e45_1
      obtain ⟨gu67, Xu68⟩ := EG_41 (P := fz s45 = 0) Gu66 r45 (fun hf => by omega)
      have r45u69 : Im (fz s45 = 0) _ := fun hf => (Xu68 hf).2.1
      have Ku72 : Im (fz s45 = 0) (GK g gu67 (rF σ (rR σ 7) 7) (rF s45 (rR σ 7) 7) 0) := fun hf => GK.kc (Ku65 hf) (Xu68 hf).2.2 (by omega)
      have Gu73 : Im (fz s45 = 0) _ := fun hf => (Xu68 hf).1
      refine ⟨(by (try simp only [pre_X14_blanks, Ks45]); (all_goals (repeat' (first | with_reducible intro _ | with_reducible apply And.intro | with_reducible refine Exists.intro gu67 ?_ | with_reducible refine Im.and ?_ ?_))); all_goals (first | assumption | trivial | ((with_reducible refine Im.i fun hf_ => ?_); first | exact (A45 hf_) | exact (Gu73 hf_) | exact (Ku72 hf_) | exact (r45u69 hf_).cst | exact ok1.i | (exact LI.z (fun h => absurd h (by decide))) | (exact absurd hf_ (by omega)) | omega) | (unfold NBP; (try simp only [Ks45]); omega) | (unfold NBQ; (try simp only [Ks45]); omega) | omega | (have zz_ := fz_z (by assumption); omega) | (split <;> omega) | done)), ?_⟩
      intro s52 Ws52 e52_0 e52_1 e52_2 e52_3 e52_4 e52_5 e52_6 e52_7 e52_8 e52_9 e52_10 e52_11 e52_12 e52_13 e52_14 e52_15 e52_16 e52_17 e52_18 e52_19 e52_20 e52_21 e52_22 R52 q52
      have q52 := dig_blanks q52 (by (try simp only [Ks45]); omega)
      obtain ⟨q52_1, q52_2⟩ := q52
      (try simp only [Ks45, NBP, NBQ] at q52_1 q52_2 e52_0 e52_1 e52_2 e52_3 e52_4 e52_5 e52_6 e52_7 e52_8 e52_9 e52_10 e52_11 e52_12 e52_13 e52_14 e52_15 e52_16 e52_17 e52_18 e52_19 e52_20 e52_21 e52_22 R52)
      have Ks52 : rR s52 7 = rR σ 7 := by first | assumption | ((try simp only [rR_sF, rR_sA, rR_sT, rR_sL] at e52_0 e52_1 e52_2 e52_3 e52_4 e52_5 e52_6 e52_7 e52_8 e52_9 e52_10 e52_11 e52_12 e52_13 e52_14 e52_15 e52_16 e52_17 e52_18 e52_19 e52_20 e52_21 e52_22 R52); omega)
      have zr52 := fz_rng s52
      have zc52 : fz s52 = 0 → fz s45 = 0 := fun hf => by omega
      have A52 : Im (fz s52 = 0) (RG σ s52 (rR σ 7) 0) := fun hf => RG.trk hp_2 (A45 (zc52 hf)) R52 (Or.inr (Or.inl rfl))
      have r45u74 : Im (fz s52 = 0) _ := fun hf => OP.gk0 (r45u69 (zc52 hf)) (GK.up (g := gu67) (N := rF s45 (rR σ 7) 7) (N' := rF s52 (rR σ 7) 7) (c := 0) (by first | assumption | omega | (simp only [rF_sT, rF_sA]; omega)))
      have Ku75 : Im (fz s52 = 0) (GK g gu67 (rF σ (rR σ 7) 7) (rF s52 (rR σ 7) 7) 0) := fun hf => GK.trans (Ku72 (zc52 hf)) (GK.up (N := rF s45 (rR σ 7) 7) (N' := rF s52 (rR σ 7) 7) (c := 0) (by first | assumption | omega | (simp only [rF_sT, rF_sA]; omega))) (Or.inr (Or.inl rfl))
      have Gu76 : Im (fz s52 = 0) (GS s52 (rR σ 7) gu67) := fun hf => GS.mv hp_2 (Gu73 (zc52 hf)) R52 (by first | assumption | omega | (simp only [rF_sT, rF_sA]; omega)) (by first | (exact Int.le_of_eq (Eq.symm (by assumption))) | omega | (simp only [rF_sT, rF_sA]; omega))
      have rNMp_52 := e52_0 q45_2; clear e52_0
      have TPRp_52 := e52_1 TPRp_45; clear e52_1
      have WNp_52 := e52_2 q45_3; clear e52_2
      have PNp_52 := e52_3 q45_4; clear e52_3
      have CCp_52 := e52_4 CCp_45; clear e52_4
      exact (by (try simp only [inv_X14_readArg_55, Ks52]); (all_goals (repeat' (first | with_reducible intro _ | with_reducible apply And.intro | with_reducible refine Exists.intro gu67 ?_ | with_reducible refine Im.and ?_ ?_))); all_goals (first | assumption | trivial | ((with_reducible refine Im.i fun hf_ => ?_); first | exact (A52 hf_) | exact (Gu76 hf_) | exact (Ku75 hf_) | exact (r45u74 hf_).cst | exact ok1.i | (exact LI.z (fun h => absurd h (by decide))) | (exact absurd hf_ (by omega)) | omega) | (unfold NBP; (try simp only [Ks52]); omega) | (unfold NBQ; (try simp only [Ks52]); omega) | omega | (have zz_ := fz_z (by assumption); omega) | (split <;> omega) | done))
  · have z8 := fz_n c8
    exact (by (try simp only [post_X14_readArg, Ks1]); (all_goals (repeat' (first | with_reducible intro _ | with_reducible apply And.intro | with_reducible refine Exists.intro g ?_ | with_reducible refine Im.and ?_ ?_))); all_goals (first | assumption | trivial | ((with_reducible refine Im.i fun hf_ => ?_); first | exact (A1 hf_) | exact (Gu2 hf_) | exact (Ku1 hf_) | exact ok1.i | (exact LI.z (fun h => absurd h (by decide))) | (exact absurd hf_ (by omega)) | omega) | (unfold NBP; (try simp only [Ks1]); omega) | (unfold NBQ; (try simp only [Ks1]); omega) | omega | (have zz_ := fz_z (by assumption); omega) | (split <;> omega) | done))
set_option maxHeartbeats 20000000 in
theorem vX14_readArg_55 (n : Nat) (σ : rS) (gg : Nat) (g : Nat → Int → Int) (hwf : rWF σ) (hp : pre_X14_readArg σ gg g) (hr : rk_X14_readArg σ gg g ≤ n + 1) : VC_X14_readArg_55 n σ gg g (post_X14_readArg σ gg g) := by
  unfold pre_X14_readArg at hp
  obtain ⟨hp_1, hp_2, hp_3, hp_4, hp_5, hp_6, hp_7, hp_8⟩ := hp
  subst hp_1
  unfold rk_X14_readArg at hr
  have hN := hp_4
  unfold NBP at hN
  have hC := hp_3
  unfold CCp at hC
  obtain ⟨hC1, hC⟩ := hC
  have zr0 := fz_rng σ
  have hr2 : fz σ = 0 → 16 * (21 - rF σ 0 31).toNat + 1 ≤ n + 1 := fun h => by rw [if_pos h] at hr; exact hr
  have hr3 : 1 ≤ n + 1 := by have := hr; split at this <;> omega
  clear hr
  unfold VC_X14_readArg_55
  intro s55 y55_1 y55_2 Ws55 hy55_1 hy55_2 e55_0 e55_1 e55_2 e55_3 e55_4 e55_5 e55_6 e55_7 e55_8 e55_9 I55
  have Ks55 : rR s55 7 = rR σ 7 := by omega
  unfold inv_X14_readArg_55 at I55
  obtain ⟨I55_1, I55_2, I55_3, I55_4, I55_5, I55_6, I55_7, I55_8, I55_9, I55_10, I55_11, I55_12, I55_13, I55_14⟩ := I55
  (try simp only [Ks55, NBP, NBQ] at I55_1 I55_2 I55_3 I55_4 I55_5 I55_6 I55_7 I55_8 I55_9 I55_10 I55_11 I55_12 I55_13 I55_14)
  have zr55 := fz_rng s55
  have TPRp_55 := e55_0 hC1; clear e55_0
  have CCp_55 := e55_1 hp_3; clear e55_1
  obtain ⟨g55, X55⟩ := I55_14
  have G55 : Im (fz s55 = 0) _ := fun hf => (X55 hf).1
  have KA55 : Im (fz s55 = 0) _ := fun hf => (X55 hf).2.1
  have O55 : Im (fz s55 = 0) _ := fun hf => (X55 hf).2.2.1
  have L55 : Im (fz s55 = 0) _ := fun hf => (X55 hf).2.2.2.1
  refine ⟨(by (try simp only [pre_X14_here, Ks55]); (all_goals (repeat' (first | with_reducible intro _ | with_reducible apply And.intro | with_reducible refine Exists.intro g55 ?_ | with_reducible refine Im.and ?_ ?_))); all_goals (first | assumption | trivial | ((with_reducible refine Im.i fun hf_ => ?_); first | exact (I55_13 hf_) | exact (G55 hf_) | exact (KA55 hf_) | exact (O55 hf_).cst | exact (L55 hf_) | exact ok1.i | (exact LI.z (fun h => absurd h (by decide))) | (exact absurd hf_ (by omega)) | omega) | (unfold NBP; (try simp only [Ks55]); omega) | (unfold NBQ; (try simp only [Ks55]); omega) | omega | (have zz_ := fz_z (by assumption); omega) | (split <;> omega) | done)), ?_⟩
  intro v56 hv56 q56
  unfold rng at hv56
  unfold post_X14_here at q56
  obtain ⟨q56_1, q56_2⟩ := q56
  (try simp only [Ks55, NBP, NBQ] at q56_1 q56_2)
  refine ⟨fun c61 => ?_, fun c61 => ?_⟩
  · intro hr_; unfold rng at hr_
    refine ⟨(by (try simp only [rng, Ks55]); (all_goals (repeat' (first | with_reducible intro _ | with_reducible apply And.intro | with_reducible refine Exists.intro g55 ?_ | with_reducible refine Im.and ?_ ?_))); all_goals (first | assumption | trivial | ((with_reducible refine Im.i fun hf_ => ?_); first | exact (I55_13 hf_) | exact (G55 hf_) | exact (KA55 hf_) | exact (O55 hf_).cst | exact (L55 hf_) | exact ok1.i | (exact LI.z (fun h => absurd h (by decide))) | (exact absurd hf_ (by omega)) | omega) | (unfold NBP; (try simp only [Ks55]); omega) | (unfold NBQ; (try simp only [Ks55]); omega) | omega | (have zz_ := fz_z (by assumption); omega) | (split <;> omega) | done)), ?_⟩
    obtain ⟨gu77, Xu78⟩ := EC_41 (P := fz s55 = 0) (rF s55 0 29) G55 O55 (fun hf => by omega)
    have Ou79 : Im (fz s55 = 0) _ := fun hf => (Xu78 hf).2.1
    have Ku80 : Im (fz s55 = 0) (GK g gu77 (rF σ (rR σ 7) 7) (rF s55 (rR σ 7) 7) 0) := fun hf => GK.kc (KA55 hf) (Xu78 hf).2.2 (by omega)
    have Gu81 : Im (fz s55 = 0) _ := fun hf => (Xu78 hf).1
    exact (by (try simp only [post_X14_readArg, reduceIte, and_true, true_and, and_false, false_and, and_self, Nat.reduceEqDiff, fz_sF31, rF_sF, rA_sF, rR_sF, tr_sF, rNMp_sF, PNp_sF, GS_F31, OP_F31, NR_F31, LI_F31, RG_l31, RG_r31, TPRp_sF31, WNp_sF31, VMp_sF31, KYp_sF31, PPp_sF31, WFp_sF31, CCp_sF31, rk_n0 hp_2, Ks55]); (all_goals (repeat' (first | with_reducible intro _ | with_reducible apply And.intro | with_reducible refine Exists.intro gu77 ?_ | with_reducible refine Im.and ?_ ?_))); all_goals (first | assumption | trivial | ((with_reducible refine Im.i fun hf_ => ?_); first | exact (I55_13 hf_) | exact (Gu81 hf_) | exact (Ku80 hf_) | exact (Ou79 hf_).cst | exact ok1.i | (exact LI.z (fun h => absurd h (by decide))) | (exact absurd hf_ (by omega)) | omega) | (unfold NBP; (try simp only [reduceIte, and_true, true_and, and_false, false_and, and_self, Nat.reduceEqDiff, fz_sF31, rF_sF, rA_sF, rR_sF, tr_sF, rNMp_sF, PNp_sF, GS_F31, OP_F31, NR_F31, LI_F31, RG_l31, RG_r31, TPRp_sF31, WNp_sF31, VMp_sF31, KYp_sF31, PPp_sF31, WFp_sF31, CCp_sF31, rk_n0 hp_2, Ks55]); omega) | (unfold NBQ; (try simp only [reduceIte, and_true, true_and, and_false, false_and, and_self, Nat.reduceEqDiff, fz_sF31, rF_sF, rA_sF, rR_sF, tr_sF, rNMp_sF, PNp_sF, GS_F31, OP_F31, NR_F31, LI_F31, RG_l31, RG_r31, TPRp_sF31, WNp_sF31, VMp_sF31, KYp_sF31, PPp_sF31, WFp_sF31, CCp_sF31, rk_n0 hp_2, Ks55]); omega) | omega | (have zz_ := fz_z (by assumption); omega) | (split <;> omega) | done))
  · intro hr_; unfold rng at hr_
    refine ⟨fun c68 => ?_, fun c68 => ?_⟩
    · have z68 := fz_n c68
      intro hr_; unfold rng at hr_
      refine ⟨(by (try simp only [rng, Ks55]); (all_goals (repeat' (first | with_reducible intro _ | with_reducible apply And.intro | with_reducible refine Exists.intro g55 ?_ | with_reducible refine Im.and ?_ ?_))); all_goals (first | assumption | trivial | ((with_reducible refine Im.i fun hf_ => ?_); first | exact (I55_13 hf_) | exact (G55 hf_) | exact (KA55 hf_) | exact (O55 hf_).cst | exact (L55 hf_) | exact ok1.i | (exact LI.z (fun h => absurd h (by decide))) | (exact absurd hf_ (by omega)) | omega) | (unfold NBP; (try simp only [Ks55]); omega) | (unfold NBQ; (try simp only [Ks55]); omega) | omega | (have zz_ := fz_z (by assumption); omega) | (split <;> omega) | done)), ?_⟩
      obtain ⟨gu82, Xu83⟩ := EC_41 (P := fz s55 = 0) (rF s55 0 29) G55 O55 (fun hf => by omega)
      have Ou84 : Im (fz s55 = 0) _ := fun hf => (Xu83 hf).2.1
      have Ku85 : Im (fz s55 = 0) (GK g gu82 (rF σ (rR σ 7) 7) (rF s55 (rR σ 7) 7) 0) := fun hf => GK.kc (KA55 hf) (Xu83 hf).2.2 (by omega)
      have Gu86 : Im (fz s55 = 0) _ := fun hf => (Xu83 hf).1
      exact (by (try simp only [post_X14_readArg, reduceIte, and_true, true_and, and_false, false_and, and_self, Nat.reduceEqDiff, fz_sF31, rF_sF, rA_sF, rR_sF, tr_sF, rNMp_sF, PNp_sF, GS_F31, OP_F31, NR_F31, LI_F31, RG_l31, RG_r31, TPRp_sF31, WNp_sF31, VMp_sF31, KYp_sF31, PPp_sF31, WFp_sF31, CCp_sF31, rk_n0 hp_2, Ks55]); (all_goals (repeat' (first | with_reducible intro _ | with_reducible apply And.intro | with_reducible refine Exists.intro gu82 ?_ | with_reducible refine Im.and ?_ ?_))); all_goals (first | assumption | trivial | ((with_reducible refine Im.i fun hf_ => ?_); first | exact (I55_13 hf_) | exact (Gu86 hf_) | exact (Ku85 hf_) | exact (Ou84 hf_).cst | exact ok1.i | (exact LI.z (fun h => absurd h (by decide))) | (exact absurd hf_ (by omega)) | omega) | (unfold NBP; (try simp only [reduceIte, and_true, true_and, and_false, false_and, and_self, Nat.reduceEqDiff, fz_sF31, rF_sF, rA_sF, rR_sF, tr_sF, rNMp_sF, PNp_sF, GS_F31, OP_F31, NR_F31, LI_F31, RG_l31, RG_r31, TPRp_sF31, WNp_sF31, VMp_sF31, KYp_sF31, PPp_sF31, WFp_sF31, CCp_sF31, rk_n0 hp_2, Ks55]); omega) | (unfold NBQ; (try simp only [reduceIte, and_true, true_and, and_false, false_and, and_self, Nat.reduceEqDiff, fz_sF31, rF_sF, rA_sF, rR_sF, tr_sF, rNMp_sF, PNp_sF, GS_F31, OP_F31, NR_F31, LI_F31, RG_l31, RG_r31, TPRp_sF31, WNp_sF31, VMp_sF31, KYp_sF31, PPp_sF31, WFp_sF31, CCp_sF31, rk_n0 hp_2, Ks55]); omega) | omega | (have zz_ := fz_z (by assumption); omega) | (split <;> omega) | done))
    · have z68 := fz_z c68
      intro hr_; unfold rng at hr_
      refine ⟨(by (try simp only [rng, Ks55]); (all_goals (repeat' (first | with_reducible intro _ | with_reducible apply And.intro | with_reducible refine Exists.intro g55 ?_ | with_reducible refine Im.and ?_ ?_))); all_goals (first | assumption | trivial | ((with_reducible refine Im.i fun hf_ => ?_); first | exact (I55_13 hf_) | exact (G55 hf_) | exact (KA55 hf_) | exact (O55 hf_).cst | exact (L55 hf_) | exact ok1.i | (exact LI.z (fun h => absurd h (by decide))) | (exact absurd hf_ (by omega)) | omega) | (unfold NBP; (try simp only [Ks55]); omega) | (unfold NBQ; (try simp only [Ks55]); omega) | omega | (have zz_ := fz_z (by assumption); omega) | (split <;> omega) | done)), ?_⟩
      refine ⟨g55, ?_⟩
      refine ⟨(by (try simp only [pre_X14_readApplied, reduceIte, and_true, true_and, and_false, false_and, and_self, Nat.reduceEqDiff, fz_sF29, rF_sF, rA_sF, rR_sF, tr_sF, rNMp_sF, PNp_sF, GS_F29, OP_F29, NR_F29, LI_F29, RG_l29, RG_r29, TPRp_sF29, WNp_sF29, VMp_sF29, KYp_sF29, PPp_sF29, WFp_sF29, CCp_sF29, rk_n0 hp_2, Ks55]); (all_goals (repeat' (first | with_reducible intro _ | with_reducible apply And.intro | with_reducible refine Exists.intro g55 ?_ | with_reducible refine Im.and ?_ ?_))); all_goals (first | assumption | trivial | ((with_reducible refine Im.i fun hf_ => ?_); first | exact (I55_13 hf_) | exact (G55 hf_) | exact (KA55 hf_) | exact (O55 hf_).cst | exact (L55 hf_) | exact ok1.i | (exact LI.z (fun h => absurd h (by decide))) | (exact absurd hf_ (by omega)) | omega) | (unfold NBP; (try simp only [reduceIte, and_true, true_and, and_false, false_and, and_self, Nat.reduceEqDiff, fz_sF29, rF_sF, rA_sF, rR_sF, tr_sF, rNMp_sF, PNp_sF, GS_F29, OP_F29, NR_F29, LI_F29, RG_l29, RG_r29, TPRp_sF29, WNp_sF29, VMp_sF29, KYp_sF29, PPp_sF29, WFp_sF29, CCp_sF29, rk_n0 hp_2, Ks55]); omega) | (unfold NBQ; (try simp only [reduceIte, and_true, true_and, and_false, false_and, and_self, Nat.reduceEqDiff, fz_sF29, rF_sF, rA_sF, rR_sF, tr_sF, rNMp_sF, PNp_sF, GS_F29, OP_F29, NR_F29, LI_F29, RG_l29, RG_r29, TPRp_sF29, WNp_sF29, VMp_sF29, KYp_sF29, PPp_sF29, WFp_sF29, CCp_sF29, rk_n0 hp_2, Ks55]); omega) | omega | (have zz_ := fz_z (by assumption); omega) | (split <;> omega) | done)), ?_⟩
      refine ⟨(by (try simp only [rk_X14_readApplied, reduceIte, and_true, true_and, and_false, false_and, and_self, Nat.reduceEqDiff, fz_sF29, rF_sF, rA_sF, rR_sF, tr_sF, rNMp_sF, PNp_sF, GS_F29, OP_F29, NR_F29, LI_F29, RG_l29, RG_r29, TPRp_sF29, WNp_sF29, VMp_sF29, KYp_sF29, PPp_sF29, WFp_sF29, CCp_sF29, rk_n0 hp_2, Ks55]); (all_goals (repeat' (first | with_reducible intro _ | with_reducible apply And.intro | with_reducible refine Exists.intro g55 ?_ | with_reducible refine Im.and ?_ ?_))); all_goals (first | assumption | trivial | ((with_reducible refine Im.i fun hf_ => ?_); first | exact (I55_13 hf_) | exact (G55 hf_) | exact (KA55 hf_) | exact (O55 hf_).cst | exact (L55 hf_) | exact ok1.i | (exact LI.z (fun h => absurd h (by decide))) | (exact absurd hf_ (by omega)) | omega) | (unfold NBP; (try simp only [reduceIte, and_true, true_and, and_false, false_and, and_self, Nat.reduceEqDiff, fz_sF29, rF_sF, rA_sF, rR_sF, tr_sF, rNMp_sF, PNp_sF, GS_F29, OP_F29, NR_F29, LI_F29, RG_l29, RG_r29, TPRp_sF29, WNp_sF29, VMp_sF29, KYp_sF29, PPp_sF29, WFp_sF29, CCp_sF29, rk_n0 hp_2, Ks55]); omega) | (unfold NBQ; (try simp only [reduceIte, and_true, true_and, and_false, false_and, and_self, Nat.reduceEqDiff, fz_sF29, rF_sF, rA_sF, rR_sF, tr_sF, rNMp_sF, PNp_sF, GS_F29, OP_F29, NR_F29, LI_F29, RG_l29, RG_r29, TPRp_sF29, WNp_sF29, VMp_sF29, KYp_sF29, PPp_sF29, WFp_sF29, CCp_sF29, rk_n0 hp_2, Ks55]); omega) | omega | (have zz_ := fz_z (by assumption); omega) | (split <;> omega) | done)), ?_⟩
      intro v85 s85 hv85 Ws85 e85_0 e85_1 e85_2 e85_3 e85_4 e85_5 e85_6 e85_7 e85_8 e85_9 q85
      unfold rng at hv85
      unfold post_X14_readApplied at q85
      obtain ⟨q85_1, q85_2, q85_3, q85_4, q85_5, q85_6, q85_7, q85_8, q85_9⟩ := q85
      (try simp only [reduceIte, and_true, true_and, and_false, false_and, and_self, Nat.reduceEqDiff, fz_sF29, rF_sF, rA_sF, rR_sF, tr_sF, rNMp_sF, PNp_sF, GS_F29, OP_F29, NR_F29, LI_F29, RG_l29, RG_r29, TPRp_sF29, WNp_sF29, VMp_sF29, KYp_sF29, PPp_sF29, WFp_sF29, CCp_sF29, rk_n0 hp_2, Ks55, NBP, NBQ] at q85_1 q85_2 q85_3 q85_4 q85_5 q85_6 q85_7 q85_8 q85_9 e85_0 e85_1 e85_2 e85_3 e85_4 e85_5 e85_6 e85_7 e85_8 e85_9)
      have Ks85 : rR s85 7 = rR σ 7 := by first | assumption | ((try simp only [rR_sF, rR_sA, rR_sT, rR_sL] at e85_0 e85_1 e85_2 e85_3 e85_4 e85_5 e85_6 e85_7 e85_8 e85_9); omega)
      have zr85 := fz_rng s85
      have zc85 : fz s85 = 0 → fz s55 = 0 := fun hf => by omega
      have A85 : Im (fz s85 = 0) (RG σ s85 (rR σ 7) 0) := fun hf => RG.trk hp_2 (I55_13 (zc85 hf)) (q85_8 (by omega)) (Or.inr (Or.inl rfl))
      obtain ⟨g85, X85⟩ := q85_9
      have Ou87 : Im (fz s85 = 0) _ := fun hf => OP.gk0 (O55 (zc85 hf)) ((X85 hf).2.1)
      have Lu88 : Im (fz s85 = 0) _ := fun hf => LI.gk0 hp_2 (L55 (zc85 hf)) (O55 (zc85 hf)) (q85_8 (by omega)) ((X85 hf).2.1)
      have Ku89 : Im (fz s85 = 0) (GK g g85 (rF σ (rR σ 7) 7) (rF s85 (rR σ 7) 7) 0) := fun hf => GK.trans (KA55 (zc85 hf)) ((X85 hf).2.1) (Or.inr (Or.inl rfl))
      have Gu90 : Im (fz s85 = 0) (GS s85 (rR σ 7) g85) := fun hf => (X85 hf).1
      have r85 : Im (fz s85 = 0) _ := fun hf => (X85 hf).2.2.1
      have TPRp_85 := e85_0 TPRp_55; clear e85_0
      have CCp_85 := e85_1 CCp_55; clear e85_1
      refine ⟨(by (try simp only [pre_X14_place, Ks85]); (all_goals (repeat' (first | with_reducible intro _ | with_reducible apply And.intro | with_reducible refine Exists.intro g85 ?_ | with_reducible refine Im.and ?_ ?_))); all_goals (first | assumption | trivial | ((with_reducible refine Im.i fun hf_ => ?_); first | exact (A85 hf_) | exact (Gu90 hf_) | exact (Ku89 hf_) | exact (Ou87 hf_).cst | exact (Lu88 hf_) | exact (r85 hf_).cst | exact ok1.i | (exact LI.z (fun h => absurd h (by decide))) | (exact absurd hf_ (by omega)) | omega) | (unfold NBP; (try simp only [Ks85]); omega) | (unfold NBQ; (try simp only [Ks85]); omega) | omega | (have zz_ := fz_z (by assumption); omega) | (split <;> omega) | done)), ?_⟩
      intro v90 hv90 q90
      unfold rng at hv90
      unfold post_X14_place at q90
      obtain ⟨q90_1, q90_2⟩ := q90
      (try simp only [Ks85, NBP, NBQ] at q90_1 q90_2)
      refine ⟨(by (try simp only [pre_X14_node_t, Ks85]); (all_goals (repeat' (first | with_reducible intro _ | with_reducible apply And.intro | with_reducible refine Exists.intro g85 ?_ | with_reducible refine Im.and ?_ ?_))); all_goals (first | assumption | trivial | ((with_reducible refine Im.i fun hf_ => ?_); first | exact (A85 hf_) | exact (Gu90 hf_) | exact (Ku89 hf_) | exact (Ou87 hf_).cst | exact (Lu88 hf_) | exact (r85 hf_).cst | exact ok1.i | (exact LI.z (fun h => absurd h (by decide))) | (exact absurd hf_ (by omega)) | omega) | (unfold NBP; (try simp only [Ks85]); omega) | (unfold NBQ; (try simp only [Ks85]); omega) | omega | (have zz_ := fz_z (by assumption); omega) | (split <;> omega) | done)), ?_⟩
      intro v93 s93 hv93 Ws93 e93_0 e93_1 e93_2 e93_3 e93_4 e93_5 e93_6 e93_7 e93_8 e93_9 e93_10 e93_11 e93_12 e93_13 e93_14 e93_15 e93_16 e93_17 e93_18 e93_19 e93_20 e93_21 q93
      unfold rng at hv93
      unfold post_X14_node_t at q93
      obtain ⟨q93_1, q93_2, q93_3, q93_4, q93_5, q93_6, q93_7, q93_8, q93_9, q93_10⟩ := q93
      (try simp only [Ks85, NBP, NBQ] at q93_1 q93_2 q93_3 q93_4 q93_5 q93_6 q93_7 q93_8 q93_9 q93_10 e93_0 e93_1 e93_2 e93_3 e93_4 e93_5 e93_6 e93_7 e93_8 e93_9 e93_10 e93_11 e93_12 e93_13 e93_14 e93_15 e93_16 e93_17 e93_18 e93_19 e93_20 e93_21)
      have Ks93 : rR s93 7 = rR σ 7 := by first | assumption | ((try simp only [rR_sF, rR_sA, rR_sT, rR_sL] at e93_0 e93_1 e93_2 e93_3 e93_4 e93_5 e93_6 e93_7 e93_8 e93_9 e93_10 e93_11 e93_12 e93_13 e93_14 e93_15 e93_16 e93_17 e93_18 e93_19 e93_20 e93_21); omega)
      have zr93 := fz_rng s93
      have zc93 : fz s93 = 0 → fz s85 = 0 := fun hf => by omega
      have A93 : Im (fz s93 = 0) (RG σ s93 (rR σ 7) 0) := fun hf => RG.trk hp_2 (A85 (zc93 hf)) q93_3 (Or.inr (Or.inl rfl))
      obtain ⟨g93, X93⟩ := EV_44 (P := fz s93 = 0) ((rF s55 0 29) + 1) (rF s85 0 31) hp_2 (fun hf => Gu90 (zc93 hf)) (fun hf => r85 (zc93 hf)) (fun _ h => h) (fun hf => q93_3) q93_1 q93_2 q93_4 q93_5 q93_6 q93_9 (fun hf => by (try simp only [rF_sT, rF_sA]); (repeat' (with_reducible apply And.intro)) <;> first | trivial | omega)
      have Ou91 : Im (fz s93 = 0) _ := fun hf => OP.kv (Ou87 (zc93 hf)) (X93 hf).2.1 (X93 hf).2.2.2.2.1
      have Lu92 : Im (fz s93 = 0) _ := fun hf => LI.kv hp_2 (Lu88 (zc93 hf)) (Ou87 (zc93 hf)) q93_3 (X93 hf).2.1 ⟨(X93 hf).2.2.2.2.2, (X93 hf).2.2.2.2.1⟩
      have Ku93 : Im (fz s93 = 0) (GK g g93 (rF σ (rR σ 7) 7) (rF s93 (rR σ 7) 7) 0) := fun hf => GK.kv (Ku89 (zc93 hf)) (X93 hf).2.1 (by omega)
      have Gu94 : Im (fz s93 = 0) _ := fun hf => (X93 hf).1
      have O93 : Im (fz s93 = 0) _ := fun hf => (X93 hf).2.2.1
      have L93_1 : Im (fz s93 = 0) _ := fun hf => (X93 hf).2.2.2.1
      have rNMp_93 := e93_0 q85_2; clear e93_0
      have TPRp_93 := e93_1 TPRp_85; clear e93_1
      have WNp_93 := e93_2 q85_3; clear e93_2
      have CCp_93 := e93_3 CCp_85; clear e93_3
      refine ⟨fun c98 => ?_, fun c98 => ?_⟩
      · refine ⟨(by (try simp only [Ks93]); (all_goals (repeat' (first | with_reducible intro _ | with_reducible apply And.intro | with_reducible refine Exists.intro g93 ?_ | with_reducible refine Im.and ?_ ?_))); all_goals (first | assumption | trivial | ((with_reducible refine Im.i fun hf_ => ?_); first | exact (A93 hf_) | exact (Gu94 hf_) | exact (Ku93 hf_) | exact (Ou91 hf_).cst | exact (Lu92 hf_) | exact (O93 hf_).cst | exact (L93_1 hf_) | exact ok1.i | (exact LI.z (fun h => absurd h (by decide))) | (exact absurd hf_ (by omega)) | omega) | (unfold NBP; (try simp only [Ks93]); omega) | (unfold NBQ; (try simp only [Ks93]); omega) | omega | (have zz_ := fz_z (by assumption); omega) | (split <;> omega) | done)), ?_⟩
        obtain ⟨gu95, Xu96⟩ := EC_44 (P := fz s93 = 0) (rF s85 0 29) Gu94 O93 (fun hf => ⟨by omega, by omega, by omega, LI.pos (Gu94 hf) (O93 hf) (L93_1 hf) (by omega)⟩)
        have Ou97 : Im (fz s93 = 0) _ := fun hf => OP.kc (Ou91 hf) (Xu96 hf).2.2 (by omega)
        have Lu98 : Im (fz s93 = 0) _ := fun hf => LI.kc (Lu92 hf) (Xu96 hf).2.2
        have O93u99 : Im (fz s93 = 0) _ := fun hf => (Xu96 hf).2.1
        have Ku100 : Im (fz s93 = 0) (GK g gu95 (rF σ (rR σ 7) 7) (rF s93 (rR σ 7) 7) 0) := fun hf => GK.kc (Ku93 hf) (Xu96 hf).2.2 (by omega)
        have Gu101 : Im (fz s93 = 0) _ := fun hf => (Xu96 hf).1
        have A123 : Im (fz s93 = 0) (RG σ (sT s93 (rR σ 7) 5 y55_2 v93) (rR σ 7) 0) := fun hf => RG.tst (f := 5) (i := y55_2) (x := v93) hp_2 (A93 hf) (by decide) (by omega)
        obtain ⟨gs123, Xs123⟩ := EA_3_41 (P := fz s93 = 0) hp_2 Gu101 Ou97 Lu98 O93u99 (fun _ h => h) (fun hf => by omega)
        have Ku102 : Im (fz s93 = 0) (GK g gs123 (rF σ (rR σ 7) 7) (rF s93 (rR σ 7) 7) 0) := fun hf => GK.ks (Ku100 hf) (Xs123 hf).2.2.2.1 (by omega) (by omega)
        have Gu103 : Im (fz s93 = 0) _ := fun hf => (Xs123 hf).1
        have Ou104 : Im (fz s93 = 0) _ := fun hf => (Xs123 hf).2.1
        have Lu105 : Im (fz s93 = 0) _ := fun hf => (Xs123 hf).2.2.1
        refine ⟨(by (try simp only [pre_X14_blanks, reduceIte, and_true, true_and, and_false, false_and, and_self, Nat.reduceEqDiff, fz_sA, rF_sA, rA_sA, rR_sA, rF_sT, rR_sT, sT_sF, fz_sT, rA_sT26 hp_2, rA_sT27 hp_2, rA_sT34 hp_2, rA_sT35 hp_2, rA_sT36 hp_2, rA_sT37 hp_2, rA_sT40 hp_2, TPRp_sT hp_2, WNp_sT hp_2, VMp_sT hp_2, KYp_sT hp_2, PPp_sT hp_2, WFp_sT hp_2, CCp_sT hp_2, rNMp_sT5, PNp_sT5, rk_n0 hp_2, Ks93]); (all_goals (repeat' (first | with_reducible intro _ | with_reducible apply And.intro | with_reducible refine Exists.intro gs123 ?_ | with_reducible refine Im.and ?_ ?_))); all_goals (first | assumption | trivial | ((with_reducible refine Im.i fun hf_ => ?_); first | exact (A123 hf_) | exact (Gu103 hf_) | exact (Ku102 hf_) | exact (Ou104 hf_).cst | exact (Lu105 hf_) | exact ok1.i | (exact LI.z (fun h => absurd h (by decide))) | (exact absurd hf_ (by omega)) | omega) | (unfold NBP; (try simp only [reduceIte, and_true, true_and, and_false, false_and, and_self, Nat.reduceEqDiff, fz_sA, rF_sA, rA_sA, rR_sA, rF_sT, rR_sT, sT_sF, fz_sT, rA_sT26 hp_2, rA_sT27 hp_2, rA_sT34 hp_2, rA_sT35 hp_2, rA_sT36 hp_2, rA_sT37 hp_2, rA_sT40 hp_2, TPRp_sT hp_2, WNp_sT hp_2, VMp_sT hp_2, KYp_sT hp_2, PPp_sT hp_2, WFp_sT hp_2, CCp_sT hp_2, rNMp_sT5, PNp_sT5, rk_n0 hp_2, Ks93]); omega) | (unfold NBQ; (try simp only [reduceIte, and_true, true_and, and_false, false_and, and_self, Nat.reduceEqDiff, fz_sA, rF_sA, rA_sA, rR_sA, rF_sT, rR_sT, sT_sF, fz_sT, rA_sT26 hp_2, rA_sT27 hp_2, rA_sT34 hp_2, rA_sT35 hp_2, rA_sT36 hp_2, rA_sT37 hp_2, rA_sT40 hp_2, TPRp_sT hp_2, WNp_sT hp_2, VMp_sT hp_2, KYp_sT hp_2, PPp_sT hp_2, WFp_sT hp_2, CCp_sT hp_2, rNMp_sT5, PNp_sT5, rk_n0 hp_2, Ks93]); omega) | omega | (have zz_ := fz_z (by assumption); omega) | (split <;> omega) | done)), ?_⟩
        intro s127 Ws127 e127_0 e127_1 e127_2 e127_3 e127_4 e127_5 e127_6 e127_7 e127_8 e127_9 e127_10 e127_11 e127_12 e127_13 e127_14 e127_15 e127_16 e127_17 e127_18 e127_19 e127_20 e127_21 e127_22 R127 q127
        have q127 := dig_blanks q127 (by (try simp only [reduceIte, and_true, true_and, and_false, false_and, and_self, Nat.reduceEqDiff, fz_sA, rF_sA, rA_sA, rR_sA, rF_sT, rR_sT, sT_sF, fz_sT, rA_sT26 hp_2, rA_sT27 hp_2, rA_sT34 hp_2, rA_sT35 hp_2, rA_sT36 hp_2, rA_sT37 hp_2, rA_sT40 hp_2, TPRp_sT hp_2, WNp_sT hp_2, VMp_sT hp_2, KYp_sT hp_2, PPp_sT hp_2, WFp_sT hp_2, CCp_sT hp_2, rNMp_sT5, PNp_sT5, rk_n0 hp_2, Ks93]); omega)
        obtain ⟨q127_1, q127_2⟩ := q127
        (try simp only [reduceIte, and_true, true_and, and_false, false_and, and_self, Nat.reduceEqDiff, fz_sA, rF_sA, rA_sA, rR_sA, rF_sT, rR_sT, sT_sF, fz_sT, rA_sT26 hp_2, rA_sT27 hp_2, rA_sT34 hp_2, rA_sT35 hp_2, rA_sT36 hp_2, rA_sT37 hp_2, rA_sT40 hp_2, TPRp_sT hp_2, WNp_sT hp_2, VMp_sT hp_2, KYp_sT hp_2, PPp_sT hp_2, WFp_sT hp_2, CCp_sT hp_2, rNMp_sT5, PNp_sT5, rk_n0 hp_2, Ks93, NBP, NBQ] at q127_1 q127_2 e127_0 e127_1 e127_2 e127_3 e127_4 e127_5 e127_6 e127_7 e127_8 e127_9 e127_10 e127_11 e127_12 e127_13 e127_14 e127_15 e127_16 e127_17 e127_18 e127_19 e127_20 e127_21 e127_22 R127)
        have Ks127 : rR s127 7 = rR σ 7 := by first | assumption | ((try simp only [rR_sF, rR_sA, rR_sT, rR_sL] at e127_0 e127_1 e127_2 e127_3 e127_4 e127_5 e127_6 e127_7 e127_8 e127_9 e127_10 e127_11 e127_12 e127_13 e127_14 e127_15 e127_16 e127_17 e127_18 e127_19 e127_20 e127_21 e127_22 R127); omega)
        have zr127 := fz_rng s127
        have zc127 : fz s127 = 0 → fz s93 = 0 := fun hf => by omega
        have A127 : Im (fz s127 = 0) (RG σ s127 (rR σ 7) 0) := fun hf => RG.trk hp_2 (A123 (zc127 hf)) R127 (Or.inr (Or.inl rfl))
        have Ou106 : Im (fz s127 = 0) _ := fun hf => OP.gk0 (Ou104 (zc127 hf)) (GK.up (g := gs123) (N := rF (sT s93 (rR σ 7) 5 y55_2 v93) (rR σ 7) 7) (N' := rF s127 (rR σ 7) 7) (c := 0) (by first | assumption | omega | (simp only [rF_sT, rF_sA]; omega)))
        have Lu107 : Im (fz s127 = 0) _ := fun hf => LI.gk0 hp_2 (Lu105 (zc127 hf)) (Ou104 (zc127 hf)) R127 (GK.up (g := gs123) (N := rF (sT s93 (rR σ 7) 5 y55_2 v93) (rR σ 7) 7) (N' := rF s127 (rR σ 7) 7) (c := 0) (by first | assumption | omega | (simp only [rF_sT, rF_sA]; omega)))
        have Ku108 : Im (fz s127 = 0) (GK g gs123 (rF σ (rR σ 7) 7) (rF s127 (rR σ 7) 7) 0) := fun hf => GK.trans (Ku102 (zc127 hf)) (GK.up (N := rF (sT s93 (rR σ 7) 5 y55_2 v93) (rR σ 7) 7) (N' := rF s127 (rR σ 7) 7) (c := 0) (by first | assumption | omega | (simp only [rF_sT, rF_sA]; omega))) (Or.inr (Or.inl rfl))
        have Gu109 : Im (fz s127 = 0) (GS s127 (rR σ 7) gs123) := fun hf => GS.mv hp_2 (Gu103 (zc127 hf)) R127 (by first | assumption | omega | (simp only [rF_sT, rF_sA]; omega)) (by first | (exact Int.le_of_eq (Eq.symm (by assumption))) | omega | (simp only [rF_sT, rF_sA]; omega))
        have rNMp_127 := e127_0 rNMp_93; clear e127_0
        have TPRp_127 := e127_1 TPRp_93; clear e127_1
        have WNp_127 := e127_2 WNp_93; clear e127_2
        have PNp_127 := e127_3 q93_10; clear e127_3
        have CCp_127 := e127_4 CCp_93; clear e127_4
        exact (by (try simp only [inv_X14_readArg_55, mu_X14_readArg_55, mu_X14_readArg_55, Ks127]); (all_goals (repeat' (first | with_reducible intro _ | with_reducible apply And.intro | with_reducible refine Exists.intro gs123 ?_ | with_reducible refine Im.and ?_ ?_))); all_goals (first | assumption | trivial | ((with_reducible refine Im.i fun hf_ => ?_); first | exact (A127 hf_) | exact (Gu109 hf_) | exact (Ku108 hf_) | exact (Ou106 hf_).cst | exact (Lu107 hf_) | exact ok1.i | (exact LI.z (fun h => absurd h (by decide))) | (exact absurd hf_ (by omega)) | omega) | (unfold NBP; (try simp only [Ks127]); omega) | (unfold NBQ; (try simp only [Ks127]); omega) | omega | (have zz_ := fz_z (by assumption); omega) | (split <;> omega) | done))
      · refine ⟨(by (try simp only [Ks93]); (all_goals (repeat' (first | with_reducible intro _ | with_reducible apply And.intro | with_reducible refine Exists.intro g93 ?_ | with_reducible refine Im.and ?_ ?_))); all_goals (first | assumption | trivial | ((with_reducible refine Im.i fun hf_ => ?_); first | exact (A93 hf_) | exact (Gu94 hf_) | exact (Ku93 hf_) | exact (Ou91 hf_).cst | exact (Lu92 hf_) | exact (O93 hf_).cst | exact (L93_1 hf_) | exact ok1.i | (exact LI.z (fun h => absurd h (by decide))) | (exact absurd hf_ (by omega)) | omega) | (unfold NBP; (try simp only [Ks93]); omega) | (unfold NBQ; (try simp only [Ks93]); omega) | omega | (have zz_ := fz_z (by assumption); omega) | (split <;> omega) | done)), ?_⟩
        obtain ⟨gu110, Xu111⟩ := EC_44 (P := fz s93 = 0) (rF s85 0 29) Gu94 O93 (fun hf => ⟨by omega, by omega, by omega, LI.pos (Gu94 hf) (O93 hf) (L93_1 hf) (by omega)⟩)
        have Ou112 : Im (fz s93 = 0) _ := fun hf => OP.kc (Ou91 hf) (Xu111 hf).2.2 (by omega)
        have Lu113 : Im (fz s93 = 0) _ := fun hf => LI.kc (Lu92 hf) (Xu111 hf).2.2
        have O93u114 : Im (fz s93 = 0) _ := fun hf => (Xu111 hf).2.1
        have Ku115 : Im (fz s93 = 0) (GK g gu110 (rF σ (rR σ 7) 7) (rF s93 (rR σ 7) 7) 0) := fun hf => GK.kc (Ku93 hf) (Xu111 hf).2.2 (by omega)
        have Gu116 : Im (fz s93 = 0) _ := fun hf => (Xu111 hf).1
        have A110 : Im (fz s93 = 0) (RG σ (sT s93 (rR σ 7) 3 y55_1 v93) (rR σ 7) 0) := fun hf => RG.tst (f := 3) (i := y55_1) (x := v93) hp_2 (A93 hf) (by decide) (by omega)
        obtain ⟨gs110, Xs110⟩ := EH_3_41 (P := fz s93 = 0) hp_2 Gu116 Ou112 O93u114 (fun _ h => h) (fun hf => by omega)
        have Ku117 : Im (fz s93 = 0) (GK g gs110 (rF σ (rR σ 7) 7) (rF s93 (rR σ 7) 7) 0) := fun hf => GK.ks (Ku115 hf) (Xs110 hf).2.2.2.1 (by omega) (by omega)
        have Gu118 : Im (fz s93 = 0) _ := fun hf => (Xs110 hf).1
        have Ou119 : Im (fz s93 = 0) _ := fun hf => (Xs110 hf).2.1
        have Lu120 : Im (fz s93 = 0) _ := fun hf => (Xs110 hf).2.2.1
        refine ⟨(by (try simp only [pre_X14_blanks, reduceIte, and_true, true_and, and_false, false_and, and_self, Nat.reduceEqDiff, fz_sA, rF_sA, rA_sA, rR_sA, rF_sT, rR_sT, sT_sF, fz_sT, rA_sT26 hp_2, rA_sT27 hp_2, rA_sT34 hp_2, rA_sT35 hp_2, rA_sT36 hp_2, rA_sT37 hp_2, rA_sT40 hp_2, TPRp_sT hp_2, WNp_sT hp_2, VMp_sT hp_2, KYp_sT hp_2, PPp_sT hp_2, WFp_sT hp_2, CCp_sT hp_2, rNMp_sT3, PNp_sT3, rk_n0 hp_2, Ks93]); (all_goals (repeat' (first | with_reducible intro _ | with_reducible apply And.intro | with_reducible refine Exists.intro gs110 ?_ | with_reducible refine Im.and ?_ ?_))); all_goals (first | assumption | trivial | ((with_reducible refine Im.i fun hf_ => ?_); first | exact (A110 hf_) | exact (Gu118 hf_) | exact (Ku117 hf_) | exact (Ou119 hf_).cst | exact (Lu120 hf_) | exact ok1.i | (exact LI.z (fun h => absurd h (by decide))) | (exact absurd hf_ (by omega)) | omega) | (unfold NBP; (try simp only [reduceIte, and_true, true_and, and_false, false_and, and_self, Nat.reduceEqDiff, fz_sA, rF_sA, rA_sA, rR_sA, rF_sT, rR_sT, sT_sF, fz_sT, rA_sT26 hp_2, rA_sT27 hp_2, rA_sT34 hp_2, rA_sT35 hp_2, rA_sT36 hp_2, rA_sT37 hp_2, rA_sT40 hp_2, TPRp_sT hp_2, WNp_sT hp_2, VMp_sT hp_2, KYp_sT hp_2, PPp_sT hp_2, WFp_sT hp_2, CCp_sT hp_2, rNMp_sT3, PNp_sT3, rk_n0 hp_2, Ks93]); omega) | (unfold NBQ; (try simp only [reduceIte, and_true, true_and, and_false, false_and, and_self, Nat.reduceEqDiff, fz_sA, rF_sA, rA_sA, rR_sA, rF_sT, rR_sT, sT_sF, fz_sT, rA_sT26 hp_2, rA_sT27 hp_2, rA_sT34 hp_2, rA_sT35 hp_2, rA_sT36 hp_2, rA_sT37 hp_2, rA_sT40 hp_2, TPRp_sT hp_2, WNp_sT hp_2, VMp_sT hp_2, KYp_sT hp_2, PPp_sT hp_2, WFp_sT hp_2, CCp_sT hp_2, rNMp_sT3, PNp_sT3, rk_n0 hp_2, Ks93]); omega) | omega | (have zz_ := fz_z (by assumption); omega) | (split <;> omega) | done)), ?_⟩
        intro s127 Ws127 e127_0 e127_1 e127_2 e127_3 e127_4 e127_5 e127_6 e127_7 e127_8 e127_9 e127_10 e127_11 e127_12 e127_13 e127_14 e127_15 e127_16 e127_17 e127_18 e127_19 e127_20 e127_21 e127_22 R127 q127
        have q127 := dig_blanks q127 (by (try simp only [reduceIte, and_true, true_and, and_false, false_and, and_self, Nat.reduceEqDiff, fz_sA, rF_sA, rA_sA, rR_sA, rF_sT, rR_sT, sT_sF, fz_sT, rA_sT26 hp_2, rA_sT27 hp_2, rA_sT34 hp_2, rA_sT35 hp_2, rA_sT36 hp_2, rA_sT37 hp_2, rA_sT40 hp_2, TPRp_sT hp_2, WNp_sT hp_2, VMp_sT hp_2, KYp_sT hp_2, PPp_sT hp_2, WFp_sT hp_2, CCp_sT hp_2, rNMp_sT3, PNp_sT3, rk_n0 hp_2, Ks93]); omega)
        obtain ⟨q127_1, q127_2⟩ := q127
        (try simp only [reduceIte, and_true, true_and, and_false, false_and, and_self, Nat.reduceEqDiff, fz_sA, rF_sA, rA_sA, rR_sA, rF_sT, rR_sT, sT_sF, fz_sT, rA_sT26 hp_2, rA_sT27 hp_2, rA_sT34 hp_2, rA_sT35 hp_2, rA_sT36 hp_2, rA_sT37 hp_2, rA_sT40 hp_2, TPRp_sT hp_2, WNp_sT hp_2, VMp_sT hp_2, KYp_sT hp_2, PPp_sT hp_2, WFp_sT hp_2, CCp_sT hp_2, rNMp_sT3, PNp_sT3, rk_n0 hp_2, Ks93, NBP, NBQ] at q127_1 q127_2 e127_0 e127_1 e127_2 e127_3 e127_4 e127_5 e127_6 e127_7 e127_8 e127_9 e127_10 e127_11 e127_12 e127_13 e127_14 e127_15 e127_16 e127_17 e127_18 e127_19 e127_20 e127_21 e127_22 R127)
        have Ks127 : rR s127 7 = rR σ 7 := by first | assumption | ((try simp only [rR_sF, rR_sA, rR_sT, rR_sL] at e127_0 e127_1 e127_2 e127_3 e127_4 e127_5 e127_6 e127_7 e127_8 e127_9 e127_10 e127_11 e127_12 e127_13 e127_14 e127_15 e127_16 e127_17 e127_18 e127_19 e127_20 e127_21 e127_22 R127); omega)
        have zr127 := fz_rng s127
        have zc127 : fz s127 = 0 → fz s93 = 0 := fun hf => by omega
        have A127 : Im (fz s127 = 0) (RG σ s127 (rR σ 7) 0) := fun hf => RG.trk hp_2 (A110 (zc127 hf)) R127 (Or.inr (Or.inl rfl))
        have Ou121 : Im (fz s127 = 0) _ := fun hf => OP.gk0 (Ou119 (zc127 hf)) (GK.up (g := gs110) (N := rF (sT s93 (rR σ 7) 3 y55_1 v93) (rR σ 7) 7) (N' := rF s127 (rR σ 7) 7) (c := 0) (by first | assumption | omega | (simp only [rF_sT, rF_sA]; omega)))
        have Lu122 : Im (fz s127 = 0) _ := fun hf => LI.gk0 hp_2 (Lu120 (zc127 hf)) (Ou119 (zc127 hf)) R127 (GK.up (g := gs110) (N := rF (sT s93 (rR σ 7) 3 y55_1 v93) (rR σ 7) 7) (N' := rF s127 (rR σ 7) 7) (c := 0) (by first | assumption | omega | (simp only [rF_sT, rF_sA]; omega)))
        have Ku123 : Im (fz s127 = 0) (GK g gs110 (rF σ (rR σ 7) 7) (rF s127 (rR σ 7) 7) 0) := fun hf => GK.trans (Ku117 (zc127 hf)) (GK.up (N := rF (sT s93 (rR σ 7) 3 y55_1 v93) (rR σ 7) 7) (N' := rF s127 (rR σ 7) 7) (c := 0) (by first | assumption | omega | (simp only [rF_sT, rF_sA]; omega))) (Or.inr (Or.inl rfl))
        have Gu124 : Im (fz s127 = 0) (GS s127 (rR σ 7) gs110) := fun hf => GS.mv hp_2 (Gu118 (zc127 hf)) R127 (by first | assumption | omega | (simp only [rF_sT, rF_sA]; omega)) (by first | (exact Int.le_of_eq (Eq.symm (by assumption))) | omega | (simp only [rF_sT, rF_sA]; omega))
        have rNMp_127 := e127_0 rNMp_93; clear e127_0
        have TPRp_127 := e127_1 TPRp_93; clear e127_1
        have WNp_127 := e127_2 WNp_93; clear e127_2
        have PNp_127 := e127_3 q93_10; clear e127_3
        have CCp_127 := e127_4 CCp_93; clear e127_4
        exact (by (try simp only [inv_X14_readArg_55, mu_X14_readArg_55, mu_X14_readArg_55, Ks127]); (all_goals (repeat' (first | with_reducible intro _ | with_reducible apply And.intro | with_reducible refine Exists.intro gs110 ?_ | with_reducible refine Im.and ?_ ?_))); all_goals (first | assumption | trivial | ((with_reducible refine Im.i fun hf_ => ?_); first | exact (A127 hf_) | exact (Gu124 hf_) | exact (Ku123 hf_) | exact (Ou121 hf_).cst | exact (Lu122 hf_) | exact ok1.i | (exact LI.z (fun h => absurd h (by decide))) | (exact absurd hf_ (by omega)) | omega) | (unfold NBP; (try simp only [Ks127]); omega) | (unfold NBQ; (try simp only [Ks127]); omega) | omega | (have zz_ := fz_z (by assumption); omega) | (split <;> omega) | done))
set_option maxHeartbeats 20000000 in
theorem vX14_readArg_55m (n : Nat) (σ : rS) (gg : Nat) (g : Nat → Int → Int) (hwf : rWF σ) (hp : pre_X14_readArg σ gg g) (hr : rk_X14_readArg σ gg g ≤ n + 1) : VC_X14_readArg_55m n σ gg g := by
  unfold pre_X14_readArg at hp
  obtain ⟨hp_1, hp_2, hp_3, hp_4, hp_5, hp_6, hp_7, hp_8⟩ := hp
  subst hp_1
  unfold rk_X14_readArg at hr
  have hN := hp_4
  unfold NBP at hN
  have hC := hp_3
  unfold CCp at hC
  obtain ⟨hC1, hC⟩ := hC
  have zr0 := fz_rng σ
  have hr2 : fz σ = 0 → 16 * (21 - rF σ 0 31).toNat + 1 ≤ n + 1 := fun h => by rw [if_pos h] at hr; exact hr
  have hr3 : 1 ≤ n + 1 := by have := hr; split at this <;> omega
  clear hr
  unfold VC_X14_readArg_55m
  (try simp only [inv_X14_readArg_55, mu_X14_readArg_55]); (all_goals (repeat' (first | with_reducible intro _ | with_reducible apply And.intro))); all_goals (first | assumption | omega | grind (splits := 20))
