set_option maxHeartbeats 20000000 in
theorem vX14_readMember (n : Nat) (σ : rS) (gg : Nat) (g : Nat → Int → Int) (hwf : rWF σ) (hp : pre_X14_readMember σ gg g) (hr : rk_X14_readMember σ gg g ≤ n + 1) : VC_X14_readMember n σ gg g (post_X14_readMember σ gg g) := by
  unfold pre_X14_readMember at hp
  obtain ⟨hp_1, hp_2, hp_3, hp_4, hp_5, hp_6, hp_7, hp_8⟩ := hp
  subst hp_1
  unfold rk_X14_readMember at hr
  have hN := hp_4
  unfold NBP at hN
  have hC := hp_3
  unfold CCp at hC
  obtain ⟨hC1, hC⟩ := hC
  have zr0 := fz_rng σ
  have hr2 : fz σ = 0 → 16 * (21 - rF σ 0 31).toNat + 6 ≤ n + 1 := fun h => by rw [if_pos h] at hr; exact hr
  have hr3 : 6 ≤ n + 1 := by have := hr; split at this <;> omega
  clear hr
  unfold VC_X14_readMember
  refine ⟨(by (all_goals (repeat' (first | with_reducible intro _ | with_reducible apply And.intro))); all_goals (first | assumption | trivial | (unfold NBP; omega) | (unfold NBQ; omega) | omega | (have zz_ := fz_z (by assumption); omega) | (split <;> omega) | done)), ?_⟩
  refine ⟨(by (try simp only [pre_X14_blanks]); (all_goals (repeat' (first | with_reducible intro _ | with_reducible apply And.intro | with_reducible refine Exists.intro g ?_ | with_reducible refine Im.and ?_ ?_))); all_goals (first | assumption | trivial | ((with_reducible refine Im.i fun hf_ => ?_); first | exact ((fun _ => RG.rf) hf_) | exact (hp_8 hf_) | exact ((fun _ => GK.rf) hf_) | exact ok1.i | (exact LI.z (fun h => absurd h (by decide))) | (exact absurd hf_ (by omega)) | omega) | (unfold NBP; omega) | (unfold NBQ; omega) | omega | (have zz_ := fz_z (by assumption); omega) | (split <;> omega) | done)), ?_⟩
  intro s1 Ws1 e1_0 e1_1 e1_2 e1_3 e1_4 e1_5 e1_6 e1_7 e1_8 e1_9 e1_10 e1_11 e1_12 e1_13 e1_14 e1_15 e1_16 e1_17 e1_18 e1_19 e1_20 e1_21 e1_22 e1_23 R1 q1
  have q1 := dig_blanks q1 (by omega)
  obtain ⟨q1_1, q1_2⟩ := q1
  (try simp only [NBP, NBQ] at q1_1 q1_2 e1_0 e1_1 e1_2 e1_3 e1_4 e1_5 e1_6 e1_7 e1_8 e1_9 e1_10 e1_11 e1_12 e1_13 e1_14 e1_15 e1_16 e1_17 e1_18 e1_19 e1_20 e1_21 e1_22 e1_23 R1)
  have Ks1 : rR s1 7 = rR σ 7 := by first | assumption | ((try simp only [rR_sF, rR_sA, rR_sT, rR_sL] at e1_0 e1_1 e1_2 e1_3 e1_4 e1_5 e1_6 e1_7 e1_8 e1_9 e1_10 e1_11 e1_12 e1_13 e1_14 e1_15 e1_16 e1_17 e1_18 e1_19 e1_20 e1_21 e1_22 e1_23 R1); omega)
  have zr1 := fz_rng s1
  have zc1 : fz s1 = 0 → fz σ = 0 := fun hf => by omega
  have A1 : Im (fz s1 = 0) (RG σ s1 (rR σ 7) 0) := fun hf => RG.trk hp_2 ((fun _ => RG.rf) (zc1 hf)) R1 (Or.inr (Or.inl rfl))
  have Ku1 : Im (fz s1 = 0) (GK g g (rF σ (rR σ 7) 7) (rF s1 (rR σ 7) 7) 0) := fun hf => GK.trans ((fun _ => GK.rf) (zc1 hf)) (GK.up (N := rF σ (rR σ 7) 7) (N' := rF s1 (rR σ 7) 7) (c := 0) (by first | assumption | omega | (simp only [rF_sT, rF_sA]; omega))) (Or.inr (Or.inl rfl))
  have Gu2 : Im (fz s1 = 0) (GS s1 (rR σ 7) g) := fun hf => GS.mv hp_2 (hp_8 (zc1 hf)) R1 (by first | assumption | omega | (simp only [rF_sT, rF_sA]; omega)) (by first | (exact Int.le_of_eq (Eq.symm (by assumption))) | omega | (simp only [rF_sT, rF_sA]; omega))
  have rNMp_1 := e1_0 hp_5; clear e1_0
  have TPRp_1 := e1_1 hC1; clear e1_1
  have WNp_1 := e1_2 hp_6; clear e1_2
  have PNp_1 := e1_3 hp_7; clear e1_3
  have CCp_1 := e1_4 hp_3; clear e1_4
  intro hr_; unfold rng at hr_
  refine ⟨fun c8 => ?_, fun c8 => ?_⟩
  · have z8 := fz_z c8
    refine ⟨(by (try simp only [pre_X14_place, Ks1]); (all_goals (repeat' (first | with_reducible intro _ | with_reducible apply And.intro | with_reducible refine Exists.intro g ?_ | with_reducible refine Im.and ?_ ?_))); all_goals (first | assumption | trivial | ((with_reducible refine Im.i fun hf_ => ?_); first | exact (A1 hf_) | exact (Gu2 hf_) | exact (Ku1 hf_) | exact ok1.i | (exact LI.z (fun h => absurd h (by decide))) | (exact absurd hf_ (by omega)) | omega) | (unfold NBP; (try simp only [Ks1]); omega) | (unfold NBQ; (try simp only [Ks1]); omega) | omega | (have zz_ := fz_z (by assumption); omega) | (split <;> omega) | done)), ?_⟩
    intro v19 hv19 q19
    unfold rng at hv19
    unfold post_X14_place at q19
    obtain ⟨q19_1, q19_2⟩ := q19
    (try simp only [Ks1, NBP, NBQ] at q19_1 q19_2)
    refine ⟨(by (try simp only [pre_X14_node_t, Ks1]); (all_goals (repeat' (first | with_reducible intro _ | with_reducible apply And.intro | with_reducible refine Exists.intro g ?_ | with_reducible refine Im.and ?_ ?_))); all_goals (first | assumption | trivial | ((with_reducible refine Im.i fun hf_ => ?_); first | exact (A1 hf_) | exact (Gu2 hf_) | exact (Ku1 hf_) | exact ok1.i | (exact LI.z (fun h => absurd h (by decide))) | (exact absurd hf_ (by omega)) | omega) | (unfold NBP; (try simp only [Ks1]); omega) | (unfold NBQ; (try simp only [Ks1]); omega) | omega | (have zz_ := fz_z (by assumption); omega) | (split <;> omega) | done)), ?_⟩
    intro v22 s22 hv22 Ws22 e22_0 e22_1 e22_2 e22_3 e22_4 e22_5 e22_6 e22_7 e22_8 e22_9 e22_10 e22_11 e22_12 e22_13 e22_14 e22_15 e22_16 e22_17 e22_18 e22_19 e22_20 e22_21 e22_22 q22
    unfold rng at hv22
    unfold post_X14_node_t at q22
    obtain ⟨q22_1, q22_2, q22_3, q22_4, q22_5, q22_6, q22_7, q22_8, q22_9, q22_10⟩ := q22
    (try simp only [Ks1, NBP, NBQ] at q22_1 q22_2 q22_3 q22_4 q22_5 q22_6 q22_7 q22_8 q22_9 q22_10 e22_0 e22_1 e22_2 e22_3 e22_4 e22_5 e22_6 e22_7 e22_8 e22_9 e22_10 e22_11 e22_12 e22_13 e22_14 e22_15 e22_16 e22_17 e22_18 e22_19 e22_20 e22_21 e22_22)
    have Ks22 : rR s22 7 = rR σ 7 := by first | assumption | ((try simp only [rR_sF, rR_sA, rR_sT, rR_sL] at e22_0 e22_1 e22_2 e22_3 e22_4 e22_5 e22_6 e22_7 e22_8 e22_9 e22_10 e22_11 e22_12 e22_13 e22_14 e22_15 e22_16 e22_17 e22_18 e22_19 e22_20 e22_21 e22_22); omega)
    have zr22 := fz_rng s22
    have zc22 : fz s22 = 0 → fz s1 = 0 := fun hf => by omega
    have A22 : Im (fz s22 = 0) (RG σ s22 (rR σ 7) 0) := fun hf => RG.trk hp_2 (A1 (zc22 hf)) q22_3 (Or.inr (Or.inl rfl))
    obtain ⟨g22, X22⟩ := EN_41 (P := fz s22 = 0) (rF s1 0 29) (rF σ 0 31) hp_2 (fun hf => Gu2 (zc22 hf)) (fun hf => q22_3) q22_1 q22_2 q22_4 q22_5 q22_6 q22_7 q22_9 (fun hf => by (try simp only [rF_sT, rF_sA]); (repeat' (with_reducible apply And.intro)) <;> first | trivial | omega)
    have Ku3 : Im (fz s22 = 0) (GK g g22 (rF σ (rR σ 7) 7) (rF s22 (rR σ 7) 7) 0) := fun hf => GK.gs (Ku1 (zc22 hf)) (X22 hf).2.1
    have Gu4 : Im (fz s22 = 0) _ := fun hf => (X22 hf).1
    have O22 : Im (fz s22 = 0) _ := fun hf => (X22 hf).2.2.1
    have L22_2 : Im (fz s22 = 0) (LI s22 (rR σ 7) g22 v22 2 41 0) := fun hf => LI.z (fun h => absurd h (by decide))
    have L22_3 : Im (fz s22 = 0) (LI s22 (rR σ 7) g22 v22 3 41 0) := fun hf => LI.z (fun h => absurd h (by decide))
    have rNMp_22 := e22_0 rNMp_1; clear e22_0
    have TPRp_22 := e22_1 TPRp_1; clear e22_1
    have WNp_22 := e22_2 WNp_1; clear e22_2
    have CCp_22 := e22_3 CCp_1; clear e22_3
    refine ⟨g22, ?_⟩
    refine ⟨(by (try simp only [pre_X14_readPrimary, Ks22]); (all_goals (repeat' (first | with_reducible intro _ | with_reducible apply And.intro | with_reducible refine Exists.intro g22 ?_ | with_reducible refine Im.and ?_ ?_))); all_goals (first | assumption | trivial | ((with_reducible refine Im.i fun hf_ => ?_); first | exact (A22 hf_) | exact (Gu4 hf_) | exact (Ku3 hf_) | exact (O22 hf_).cst | exact (L22_2 hf_) | exact (L22_3 hf_) | exact ok1.i | (exact LI.z (fun h => absurd h (by decide))) | (exact absurd hf_ (by omega)) | omega) | (unfold NBP; (try simp only [Ks22]); omega) | (unfold NBQ; (try simp only [Ks22]); omega) | omega | (have zz_ := fz_z (by assumption); omega) | (split <;> omega) | done)), ?_⟩
    refine ⟨(by (try simp only [rk_X14_readPrimary, Ks22]); (all_goals (repeat' (first | with_reducible intro _ | with_reducible apply And.intro | with_reducible refine Exists.intro g22 ?_ | with_reducible refine Im.and ?_ ?_))); all_goals (first | assumption | trivial | ((with_reducible refine Im.i fun hf_ => ?_); first | exact (A22 hf_) | exact (Gu4 hf_) | exact (Ku3 hf_) | exact (O22 hf_).cst | exact (L22_2 hf_) | exact (L22_3 hf_) | exact ok1.i | (exact LI.z (fun h => absurd h (by decide))) | (exact absurd hf_ (by omega)) | omega) | (unfold NBP; (try simp only [Ks22]); omega) | (unfold NBQ; (try simp only [Ks22]); omega) | omega | (have zz_ := fz_z (by assumption); omega) | (split <;> omega) | done)), ?_⟩
    intro v35 s35 hv35 Ws35 e35_0 e35_1 e35_2 e35_3 e35_4 e35_5 e35_6 e35_7 e35_8 e35_9 q35
    unfold rng at hv35
    unfold post_X14_readPrimary at q35
    obtain ⟨q35_1, q35_2, q35_3, q35_4, q35_5, q35_6, q35_7, q35_8, q35_9⟩ := q35
    (try simp only [Ks22, NBP, NBQ] at q35_1 q35_2 q35_3 q35_4 q35_5 q35_6 q35_7 q35_8 q35_9 e35_0 e35_1 e35_2 e35_3 e35_4 e35_5 e35_6 e35_7 e35_8 e35_9)
    have Ks35 : rR s35 7 = rR σ 7 := by first | assumption | ((try simp only [rR_sF, rR_sA, rR_sT, rR_sL] at e35_0 e35_1 e35_2 e35_3 e35_4 e35_5 e35_6 e35_7 e35_8 e35_9); omega)
    have zr35 := fz_rng s35
    have zc35 : fz s35 = 0 → fz s22 = 0 := fun hf => by omega
    have A35 : Im (fz s35 = 0) (RG σ s35 (rR σ 7) 0) := fun hf => RG.trk hp_2 (A22 (zc35 hf)) (q35_8 (by omega)) (Or.inr (Or.inl rfl))
    obtain ⟨g35, X35⟩ := q35_9
    have O22u5 : Im (fz s35 = 0) _ := fun hf => OP.gk0 (O22 (zc35 hf)) ((X35 hf).2.1)
    have L22_2u6 : Im (fz s35 = 0) _ := fun hf => LI.gk0 hp_2 (L22_2 (zc35 hf)) (O22 (zc35 hf)) (q35_8 (by omega)) ((X35 hf).2.1)
    have L22_3u7 : Im (fz s35 = 0) _ := fun hf => LI.gk0 hp_2 (L22_3 (zc35 hf)) (O22 (zc35 hf)) (q35_8 (by omega)) ((X35 hf).2.1)
    have Ku8 : Im (fz s35 = 0) (GK g g35 (rF σ (rR σ 7) 7) (rF s35 (rR σ 7) 7) 0) := fun hf => GK.trans (Ku3 (zc35 hf)) ((X35 hf).2.1) (Or.inr (Or.inl rfl))
    have Gu9 : Im (fz s35 = 0) (GS s35 (rR σ 7) g35) := fun hf => (X35 hf).1
    have r35 : Im (fz s35 = 0) _ := fun hf => (X35 hf).2.2.1
    have TPRp_35 := e35_0 TPRp_22; clear e35_0
    have CCp_35 := e35_1 CCp_22; clear e35_1
    refine ⟨(by (try simp only [Ks35]); (all_goals (repeat' (first | with_reducible intro _ | with_reducible apply And.intro | with_reducible refine Exists.intro g35 ?_ | with_reducible refine Im.and ?_ ?_))); all_goals (first | assumption | trivial | ((with_reducible refine Im.i fun hf_ => ?_); first | exact (A35 hf_) | exact (Gu9 hf_) | exact (Ku8 hf_) | exact (O22u5 hf_).cst | exact (L22_2u6 hf_) | exact (L22_3u7 hf_) | exact (r35 hf_).cst | exact ok1.i | (exact LI.z (fun h => absurd h (by decide))) | (exact absurd hf_ (by omega)) | omega) | (unfold NBP; (try simp only [Ks35]); omega) | (unfold NBQ; (try simp only [Ks35]); omega) | omega | (have zz_ := fz_z (by assumption); omega) | (split <;> omega) | done)), ?_⟩
    have A38 : Im (fz s35 = 0) (RG σ (sT s35 (rR σ 7) 1 v22 v35) (rR σ 7) 0) := fun hf => RG.tst (f := 1) (i := v22) (x := v35) hp_2 (A35 hf) (by decide) (by omega)
    obtain ⟨gs38, Xs38⟩ := EH_1_41 (P := fz s35 = 0) hp_2 Gu9 O22u5 r35 so_2_17 (fun hf => by omega)
    have L22_2u10 : Im (fz s35 = 0) _ := fun hf => LI.kd (ff := 1) (fi := v22) (z := v35) hp_2 (by decide) (by decide) (L22_2u6 hf) (O22u5 hf) (Xs38 hf).2.2.2.1 (Xs38 hf).2.2.2.2.2.1 (fun h => absurd h (by decide))
    have L22_3u11 : Im (fz s35 = 0) _ := fun hf => LI.kd (ff := 1) (fi := v22) (z := v35) hp_2 (by decide) (by decide) (L22_3u7 hf) (O22u5 hf) (Xs38 hf).2.2.2.1 (Xs38 hf).2.2.2.2.2.1 (fun h => absurd h (by decide))
    have Ku12 : Im (fz s35 = 0) (GK g gs38 (rF σ (rR σ 7) 7) (rF s35 (rR σ 7) 7) 0) := fun hf => GK.ks (Ku8 hf) (Xs38 hf).2.2.2.1 (by omega) (by omega)
    have Gu13 : Im (fz s35 = 0) _ := fun hf => (Xs38 hf).1
    have O22u14 : Im (fz s35 = 0) _ := fun hf => (Xs38 hf).2.1
    have L38u15 : Im (fz s35 = 0) _ := fun hf => (Xs38 hf).2.2.1
    refine ⟨(by (try simp only [pre_X14_blanks, reduceIte, and_true, true_and, and_false, false_and, and_self, Nat.reduceEqDiff, fz_sA, rF_sA, rA_sA, rR_sA, rF_sT, rR_sT, sT_sF, fz_sT, rA_sT26 hp_2, rA_sT27 hp_2, rA_sT34 hp_2, rA_sT35 hp_2, rA_sT36 hp_2, rA_sT37 hp_2, rA_sT40 hp_2, TPRp_sT hp_2, WNp_sT hp_2, VMp_sT hp_2, KYp_sT hp_2, PPp_sT hp_2, WFp_sT hp_2, CCp_sT hp_2, rNMp_sT1, PNp_sT1, rk_n0 hp_2, Ks35]); (all_goals (repeat' (first | with_reducible intro _ | with_reducible apply And.intro | with_reducible refine Exists.intro gs38 ?_ | with_reducible refine Im.and ?_ ?_))); all_goals (first | assumption | trivial | ((with_reducible refine Im.i fun hf_ => ?_); first | exact (A38 hf_) | exact (Gu13 hf_) | exact (Ku12 hf_) | exact (L22_2u10 hf_) | exact (L22_3u11 hf_) | exact (O22u14 hf_).cst | exact (L38u15 hf_) | exact ok1.i | (exact LI.z (fun h => absurd h (by decide))) | (exact absurd hf_ (by omega)) | omega) | (unfold NBP; (try simp only [reduceIte, and_true, true_and, and_false, false_and, and_self, Nat.reduceEqDiff, fz_sA, rF_sA, rA_sA, rR_sA, rF_sT, rR_sT, sT_sF, fz_sT, rA_sT26 hp_2, rA_sT27 hp_2, rA_sT34 hp_2, rA_sT35 hp_2, rA_sT36 hp_2, rA_sT37 hp_2, rA_sT40 hp_2, TPRp_sT hp_2, WNp_sT hp_2, VMp_sT hp_2, KYp_sT hp_2, PPp_sT hp_2, WFp_sT hp_2, CCp_sT hp_2, rNMp_sT1, PNp_sT1, rk_n0 hp_2, Ks35]); omega) | (unfold NBQ; (try simp only [reduceIte, and_true, true_and, and_false, false_and, and_self, Nat.reduceEqDiff, fz_sA, rF_sA, rA_sA, rR_sA, rF_sT, rR_sT, sT_sF, fz_sT, rA_sT26 hp_2, rA_sT27 hp_2, rA_sT34 hp_2, rA_sT35 hp_2, rA_sT36 hp_2, rA_sT37 hp_2, rA_sT40 hp_2, TPRp_sT hp_2, WNp_sT hp_2, VMp_sT hp_2, KYp_sT hp_2, PPp_sT hp_2, WFp_sT hp_2, CCp_sT hp_2, rNMp_sT1, PNp_sT1, rk_n0 hp_2, Ks35]); omega) | omega | (have zz_ := fz_z (by assumption); omega) | (split <;> omega) | done)), ?_⟩
    intro s42 Ws42 e42_0 e42_1 e42_2 e42_3 e42_4 e42_5 e42_6 e42_7 e42_8 e42_9 e42_10 e42_11 e42_12 e42_13 e42_14 e42_15 e42_16 e42_17 e42_18 e42_19 e42_20 e42_21 e42_22 e42_23 R42 q42
    have q42 := dig_blanks q42 (by (try simp only [reduceIte, and_true, true_and, and_false, false_and, and_self, Nat.reduceEqDiff, fz_sA, rF_sA, rA_sA, rR_sA, rF_sT, rR_sT, sT_sF, fz_sT, rA_sT26 hp_2, rA_sT27 hp_2, rA_sT34 hp_2, rA_sT35 hp_2, rA_sT36 hp_2, rA_sT37 hp_2, rA_sT40 hp_2, TPRp_sT hp_2, WNp_sT hp_2, VMp_sT hp_2, KYp_sT hp_2, PPp_sT hp_2, WFp_sT hp_2, CCp_sT hp_2, rNMp_sT1, PNp_sT1, rk_n0 hp_2, Ks35]); omega)
    obtain ⟨q42_1, q42_2⟩ := q42
    (try simp only [reduceIte, and_true, true_and, and_false, false_and, and_self, Nat.reduceEqDiff, fz_sA, rF_sA, rA_sA, rR_sA, rF_sT, rR_sT, sT_sF, fz_sT, rA_sT26 hp_2, rA_sT27 hp_2, rA_sT34 hp_2, rA_sT35 hp_2, rA_sT36 hp_2, rA_sT37 hp_2, rA_sT40 hp_2, TPRp_sT hp_2, WNp_sT hp_2, VMp_sT hp_2, KYp_sT hp_2, PPp_sT hp_2, WFp_sT hp_2, CCp_sT hp_2, rNMp_sT1, PNp_sT1, rk_n0 hp_2, Ks35, NBP, NBQ] at q42_1 q42_2 e42_0 e42_1 e42_2 e42_3 e42_4 e42_5 e42_6 e42_7 e42_8 e42_9 e42_10 e42_11 e42_12 e42_13 e42_14 e42_15 e42_16 e42_17 e42_18 e42_19 e42_20 e42_21 e42_22 e42_23 R42)
    have Ks42 : rR s42 7 = rR σ 7 := by first | assumption | ((try simp only [rR_sF, rR_sA, rR_sT, rR_sL] at e42_0 e42_1 e42_2 e42_3 e42_4 e42_5 e42_6 e42_7 e42_8 e42_9 e42_10 e42_11 e42_12 e42_13 e42_14 e42_15 e42_16 e42_17 e42_18 e42_19 e42_20 e42_21 e42_22 e42_23 R42); omega)
    have zr42 := fz_rng s42
    have zc42 : fz s42 = 0 → fz s35 = 0 := fun hf => by omega
    have A42 : Im (fz s42 = 0) (RG σ s42 (rR σ 7) 0) := fun hf => RG.trk hp_2 (A38 (zc42 hf)) R42 (Or.inr (Or.inl rfl))
    have L22_2u16 : Im (fz s42 = 0) _ := fun hf => LI.gk0 hp_2 (L22_2u10 (zc42 hf)) (O22u14 (zc42 hf)) R42 (GK.up (g := gs38) (N := rF (sT s35 (rR σ 7) 1 v22 v35) (rR σ 7) 7) (N' := rF s42 (rR σ 7) 7) (c := 0) (by first | assumption | omega | (simp only [rF_sT, rF_sA]; omega)))
    have L22_3u17 : Im (fz s42 = 0) _ := fun hf => LI.gk0 hp_2 (L22_3u11 (zc42 hf)) (O22u14 (zc42 hf)) R42 (GK.up (g := gs38) (N := rF (sT s35 (rR σ 7) 1 v22 v35) (rR σ 7) 7) (N' := rF s42 (rR σ 7) 7) (c := 0) (by first | assumption | omega | (simp only [rF_sT, rF_sA]; omega)))
    have O22u18 : Im (fz s42 = 0) _ := fun hf => OP.gk0 (O22u14 (zc42 hf)) (GK.up (g := gs38) (N := rF (sT s35 (rR σ 7) 1 v22 v35) (rR σ 7) 7) (N' := rF s42 (rR σ 7) 7) (c := 0) (by first | assumption | omega | (simp only [rF_sT, rF_sA]; omega)))
    have L38u19 : Im (fz s42 = 0) _ := fun hf => LI.gk0 hp_2 (L38u15 (zc42 hf)) (O22u14 (zc42 hf)) R42 (GK.up (g := gs38) (N := rF (sT s35 (rR σ 7) 1 v22 v35) (rR σ 7) 7) (N' := rF s42 (rR σ 7) 7) (c := 0) (by first | assumption | omega | (simp only [rF_sT, rF_sA]; omega)))
    have Ku20 : Im (fz s42 = 0) (GK g gs38 (rF σ (rR σ 7) 7) (rF s42 (rR σ 7) 7) 0) := fun hf => GK.trans (Ku12 (zc42 hf)) (GK.up (N := rF (sT s35 (rR σ 7) 1 v22 v35) (rR σ 7) 7) (N' := rF s42 (rR σ 7) 7) (c := 0) (by first | assumption | omega | (simp only [rF_sT, rF_sA]; omega))) (Or.inr (Or.inl rfl))
    have Gu21 : Im (fz s42 = 0) (GS s42 (rR σ 7) gs38) := fun hf => GS.mv hp_2 (Gu13 (zc42 hf)) R42 (by first | assumption | omega | (simp only [rF_sT, rF_sA]; omega)) (by first | (exact Int.le_of_eq (Eq.symm (by assumption))) | omega | (simp only [rF_sT, rF_sA]; omega))
    have rNMp_42 := e42_0 q35_2; clear e42_0
    have TPRp_42 := e42_1 TPRp_35; clear e42_1
    have WNp_42 := e42_2 q35_3; clear e42_2
    have PNp_42 := e42_3 q35_4; clear e42_3
    have CCp_42 := e42_4 CCp_35; clear e42_4
    exact (by (try simp only [inv_X14_readMember_45, Ks42]); (all_goals (repeat' (first | with_reducible intro _ | with_reducible apply And.intro | with_reducible refine Exists.intro gs38 ?_ | with_reducible refine Im.and ?_ ?_))); all_goals (first | assumption | trivial | ((with_reducible refine Im.i fun hf_ => ?_); first | exact (A42 hf_) | exact (Gu21 hf_) | exact (Ku20 hf_) | exact (L22_2u16 hf_) | exact (L22_3u17 hf_) | exact (O22u18 hf_).cst | exact (L38u19 hf_) | exact ok1.i | (exact LI.z (fun h => absurd h (by decide))) | (exact absurd hf_ (by omega)) | omega) | (unfold NBP; (try simp only [Ks42]); omega) | (unfold NBQ; (try simp only [Ks42]); omega) | omega | (have zz_ := fz_z (by assumption); omega) | (split <;> omega) | done))
  · have z8 := fz_n c8
    exact (by (try simp only [post_X14_readMember, Ks1]); (all_goals (repeat' (first | with_reducible intro _ | with_reducible apply And.intro | with_reducible refine Exists.intro g ?_ | with_reducible refine Im.and ?_ ?_))); all_goals (first | assumption | trivial | ((with_reducible refine Im.i fun hf_ => ?_); first | exact (A1 hf_) | exact (Gu2 hf_) | exact (Ku1 hf_) | exact ok1.i | (exact LI.z (fun h => absurd h (by decide))) | (exact absurd hf_ (by omega)) | omega) | (unfold NBP; (try simp only [Ks1]); omega) | (unfold NBQ; (try simp only [Ks1]); omega) | omega | (have zz_ := fz_z (by assumption); omega) | (split <;> omega) | done))
set_option maxHeartbeats 20000000 in
theorem vX14_readMember_45 (n : Nat) (σ : rS) (gg : Nat) (g : Nat → Int → Int) (hwf : rWF σ) (hp : pre_X14_readMember σ gg g) (hr : rk_X14_readMember σ gg g ≤ n + 1) : VC_X14_readMember_45 n σ gg g (post_X14_readMember σ gg g) := by
  unfold pre_X14_readMember at hp
  obtain ⟨hp_1, hp_2, hp_3, hp_4, hp_5, hp_6, hp_7, hp_8⟩ := hp
  subst hp_1
  unfold rk_X14_readMember at hr
  have hN := hp_4
  unfold NBP at hN
  have hC := hp_3
  unfold CCp at hC
  obtain ⟨hC1, hC⟩ := hC
  have zr0 := fz_rng σ
  have hr2 : fz σ = 0 → 16 * (21 - rF σ 0 31).toNat + 6 ≤ n + 1 := fun h => by rw [if_pos h] at hr; exact hr
  have hr3 : 6 ≤ n + 1 := by have := hr; split at this <;> omega
  clear hr
  unfold VC_X14_readMember_45
  intro s45 y45_1 y45_2 Ws45 hy45_1 hy45_2 e45_0 e45_1 e45_2 e45_3 e45_4 e45_5 e45_6 e45_7 e45_8 e45_9 I45
  have Ks45 : rR s45 7 = rR σ 7 := by omega
  unfold inv_X14_readMember_45 at I45
  obtain ⟨I45_1, I45_2, I45_3, I45_4, I45_5, I45_6, I45_7, I45_8, I45_9, I45_10, I45_11, I45_12, I45_13⟩ := I45
  (try simp only [Ks45, NBP, NBQ] at I45_1 I45_2 I45_3 I45_4 I45_5 I45_6 I45_7 I45_8 I45_9 I45_10 I45_11 I45_12 I45_13)
  have zr45 := fz_rng s45
  have TPRp_45 := e45_0 hC1; clear e45_0
  have CCp_45 := e45_1 hp_3; clear e45_1
  obtain ⟨g45, X45⟩ := I45_13
  have G45 : Im (fz s45 = 0) _ := fun hf => (X45 hf).1
  have KA45 : Im (fz s45 = 0) _ := fun hf => (X45 hf).2.1
  have O45 : Im (fz s45 = 0) _ := fun hf => (X45 hf).2.2.1
  have L45 : Im (fz s45 = 0) _ := fun hf => (X45 hf).2.2.2.1
  refine ⟨(by (try simp only [pre_X14_here, Ks45]); (all_goals (repeat' (first | with_reducible intro _ | with_reducible apply And.intro | with_reducible refine Exists.intro g45 ?_ | with_reducible refine Im.and ?_ ?_))); all_goals (first | assumption | trivial | ((with_reducible refine Im.i fun hf_ => ?_); first | exact (I45_12 hf_) | exact (G45 hf_) | exact (KA45 hf_) | exact (O45 hf_).cst | exact (L45 hf_) | exact ok1.i | (exact LI.z (fun h => absurd h (by decide))) | (exact absurd hf_ (by omega)) | omega) | (unfold NBP; (try simp only [Ks45]); omega) | (unfold NBQ; (try simp only [Ks45]); omega) | omega | (have zz_ := fz_z (by assumption); omega) | (split <;> omega) | done)), ?_⟩
  intro v46 hv46 q46
  unfold rng at hv46
  unfold post_X14_here at q46
  obtain ⟨q46_1, q46_2⟩ := q46
  (try simp only [Ks45, NBP, NBQ] at q46_1 q46_2)
  refine ⟨fun c51 => ?_, fun c51 => ?_⟩
  · obtain ⟨gu22, Xu23⟩ := EC_41 (P := fz s45 = 0) (rF s45 0 29) G45 O45 (fun hf => by omega)
    have Ou24 : Im (fz s45 = 0) _ := fun hf => (Xu23 hf).2.1
    have Ku25 : Im (fz s45 = 0) (GK g gu22 (rF σ (rR σ 7) 7) (rF s45 (rR σ 7) 7) 0) := fun hf => GK.kc (KA45 hf) (Xu23 hf).2.2 (by omega)
    have Gu26 : Im (fz s45 = 0) _ := fun hf => (Xu23 hf).1
    exact (by (try simp only [post_X14_readMember, Ks45]); (all_goals (repeat' (first | with_reducible intro _ | with_reducible apply And.intro | with_reducible refine Exists.intro gu22 ?_ | with_reducible refine Im.and ?_ ?_))); all_goals (first | assumption | trivial | ((with_reducible refine Im.i fun hf_ => ?_); first | exact (I45_12 hf_) | exact (Gu26 hf_) | exact (Ku25 hf_) | exact (Ou24 hf_).cst | exact ok1.i | (exact LI.z (fun h => absurd h (by decide))) | (exact absurd hf_ (by omega)) | omega) | (unfold NBP; (try simp only [Ks45]); omega) | (unfold NBQ; (try simp only [Ks45]); omega) | omega | (have zz_ := fz_z (by assumption); omega) | (split <;> omega) | done))
  · intro hr_; unfold rng at hr_
    refine ⟨fun c58 => ?_, fun c58 => ?_⟩
    · have z58 := fz_n c58
      obtain ⟨gu27, Xu28⟩ := EC_41 (P := fz s45 = 0) (rF s45 0 29) G45 O45 (fun hf => by omega)
      have Ou29 : Im (fz s45 = 0) _ := fun hf => (Xu28 hf).2.1
      have Ku30 : Im (fz s45 = 0) (GK g gu27 (rF σ (rR σ 7) 7) (rF s45 (rR σ 7) 7) 0) := fun hf => GK.kc (KA45 hf) (Xu28 hf).2.2 (by omega)
      have Gu31 : Im (fz s45 = 0) _ := fun hf => (Xu28 hf).1
      exact (by (try simp only [post_X14_readMember, Ks45]); (all_goals (repeat' (first | with_reducible intro _ | with_reducible apply And.intro | with_reducible refine Exists.intro gu27 ?_ | with_reducible refine Im.and ?_ ?_))); all_goals (first | assumption | trivial | ((with_reducible refine Im.i fun hf_ => ?_); first | exact (I45_12 hf_) | exact (Gu31 hf_) | exact (Ku30 hf_) | exact (Ou29 hf_).cst | exact ok1.i | (exact LI.z (fun h => absurd h (by decide))) | (exact absurd hf_ (by omega)) | omega) | (unfold NBP; (try simp only [Ks45]); omega) | (unfold NBQ; (try simp only [Ks45]); omega) | omega | (have zz_ := fz_z (by assumption); omega) | (split <;> omega) | done))
    · have z58 := fz_z c58
      refine ⟨(by (try simp only [pre_X14_place, Ks45]); (all_goals (repeat' (first | with_reducible intro _ | with_reducible apply And.intro | with_reducible refine Exists.intro g45 ?_ | with_reducible refine Im.and ?_ ?_))); all_goals (first | assumption | trivial | ((with_reducible refine Im.i fun hf_ => ?_); first | exact (I45_12 hf_) | exact (G45 hf_) | exact (KA45 hf_) | exact (O45 hf_).cst | exact (L45 hf_) | exact ok1.i | (exact LI.z (fun h => absurd h (by decide))) | (exact absurd hf_ (by omega)) | omega) | (unfold NBP; (try simp only [Ks45]); omega) | (unfold NBQ; (try simp only [Ks45]); omega) | omega | (have zz_ := fz_z (by assumption); omega) | (split <;> omega) | done)), ?_⟩
      intro v62 hv62 q62
      unfold rng at hv62
      unfold post_X14_place at q62
      obtain ⟨q62_1, q62_2⟩ := q62
      (try simp only [Ks45, NBP, NBQ] at q62_1 q62_2)
      intro hr_; unfold rng at hr_
      refine ⟨(by (try simp only [rng, Ks45]); (all_goals (repeat' (first | with_reducible intro _ | with_reducible apply And.intro | with_reducible refine Exists.intro g45 ?_ | with_reducible refine Im.and ?_ ?_))); all_goals (first | assumption | trivial | ((with_reducible refine Im.i fun hf_ => ?_); first | exact (I45_12 hf_) | exact (G45 hf_) | exact (KA45 hf_) | exact (O45 hf_).cst | exact (L45 hf_) | exact ok1.i | (exact LI.z (fun h => absurd h (by decide))) | (exact absurd hf_ (by omega)) | omega) | (unfold NBP; (try simp only [Ks45]); omega) | (unfold NBQ; (try simp only [Ks45]); omega) | omega | (have zz_ := fz_z (by assumption); omega) | (split <;> omega) | done)), ?_⟩
      refine ⟨(by (try simp only [pre_X14_blanks, reduceIte, and_true, true_and, and_false, false_and, and_self, Nat.reduceEqDiff, fz_sF29, rF_sF, rA_sF, rR_sF, tr_sF, rNMp_sF, PNp_sF, GS_F29, OP_F29, NR_F29, LI_F29, RG_l29, RG_r29, TPRp_sF29, WNp_sF29, VMp_sF29, KYp_sF29, PPp_sF29, WFp_sF29, CCp_sF29, rk_n0 hp_2, Ks45]); (all_goals (repeat' (first | with_reducible intro _ | with_reducible apply And.intro | with_reducible refine Exists.intro g45 ?_ | with_reducible refine Im.and ?_ ?_))); all_goals (first | assumption | trivial | ((with_reducible refine Im.i fun hf_ => ?_); first | exact (I45_12 hf_) | exact (G45 hf_) | exact (KA45 hf_) | exact (O45 hf_).cst | exact (L45 hf_) | exact ok1.i | (exact LI.z (fun h => absurd h (by decide))) | (exact absurd hf_ (by omega)) | omega) | (unfold NBP; (try simp only [reduceIte, and_true, true_and, and_false, false_and, and_self, Nat.reduceEqDiff, fz_sF29, rF_sF, rA_sF, rR_sF, tr_sF, rNMp_sF, PNp_sF, GS_F29, OP_F29, NR_F29, LI_F29, RG_l29, RG_r29, TPRp_sF29, WNp_sF29, VMp_sF29, KYp_sF29, PPp_sF29, WFp_sF29, CCp_sF29, rk_n0 hp_2, Ks45]); omega) | (unfold NBQ; (try simp only [reduceIte, and_true, true_and, and_false, false_and, and_self, Nat.reduceEqDiff, fz_sF29, rF_sF, rA_sF, rR_sF, tr_sF, rNMp_sF, PNp_sF, GS_F29, OP_F29, NR_F29, LI_F29, RG_l29, RG_r29, TPRp_sF29, WNp_sF29, VMp_sF29, KYp_sF29, PPp_sF29, WFp_sF29, CCp_sF29, rk_n0 hp_2, Ks45]); omega) | omega | (have zz_ := fz_z (by assumption); omega) | (split <;> omega) | done)), ?_⟩
      intro s77 Ws77 e77_0 e77_1 e77_2 e77_3 e77_4 e77_5 e77_6 e77_7 e77_8 e77_9 e77_10 e77_11 e77_12 e77_13 e77_14 e77_15 e77_16 e77_17 e77_18 e77_19 e77_20 e77_21 e77_22 e77_23 R77 q77
      have q77 := dig_blanks q77 (by (try simp only [reduceIte, and_true, true_and, and_false, false_and, and_self, Nat.reduceEqDiff, fz_sF29, rF_sF, rA_sF, rR_sF, tr_sF, rNMp_sF, PNp_sF, GS_F29, OP_F29, NR_F29, LI_F29, RG_l29, RG_r29, TPRp_sF29, WNp_sF29, VMp_sF29, KYp_sF29, PPp_sF29, WFp_sF29, CCp_sF29, rk_n0 hp_2, Ks45]); omega)
      obtain ⟨q77_1, q77_2⟩ := q77
      (try simp only [reduceIte, and_true, true_and, and_false, false_and, and_self, Nat.reduceEqDiff, fz_sF29, rF_sF, rA_sF, rR_sF, tr_sF, rNMp_sF, PNp_sF, GS_F29, OP_F29, NR_F29, LI_F29, RG_l29, RG_r29, TPRp_sF29, WNp_sF29, VMp_sF29, KYp_sF29, PPp_sF29, WFp_sF29, CCp_sF29, rk_n0 hp_2, Ks45, NBP, NBQ] at q77_1 q77_2 e77_0 e77_1 e77_2 e77_3 e77_4 e77_5 e77_6 e77_7 e77_8 e77_9 e77_10 e77_11 e77_12 e77_13 e77_14 e77_15 e77_16 e77_17 e77_18 e77_19 e77_20 e77_21 e77_22 e77_23 R77)
      have Ks77 : rR s77 7 = rR σ 7 := by first | assumption | ((try simp only [rR_sF, rR_sA, rR_sT, rR_sL] at e77_0 e77_1 e77_2 e77_3 e77_4 e77_5 e77_6 e77_7 e77_8 e77_9 e77_10 e77_11 e77_12 e77_13 e77_14 e77_15 e77_16 e77_17 e77_18 e77_19 e77_20 e77_21 e77_22 e77_23 R77); omega)
      have zr77 := fz_rng s77
      have zc77 : fz s77 = 0 → fz s45 = 0 := fun hf => by omega
      have A77 : Im (fz s77 = 0) (RG σ s77 (rR σ 7) 0) := fun hf => RG.trk hp_2 (I45_12 (zc77 hf)) R77 (Or.inr (Or.inl rfl))
      have Ou32 : Im (fz s77 = 0) _ := fun hf => OP.gk0 (O45 (zc77 hf)) (GK.up (g := g45) (N := rF s45 (rR σ 7) 7) (N' := rF s77 (rR σ 7) 7) (c := 0) (by first | assumption | omega | (simp only [rF_sT, rF_sA]; omega)))
      have Lu33 : Im (fz s77 = 0) _ := fun hf => LI.gk0 hp_2 (L45 (zc77 hf)) (O45 (zc77 hf)) R77 (GK.up (g := g45) (N := rF s45 (rR σ 7) 7) (N' := rF s77 (rR σ 7) 7) (c := 0) (by first | assumption | omega | (simp only [rF_sT, rF_sA]; omega)))
      have Ku34 : Im (fz s77 = 0) (GK g g45 (rF σ (rR σ 7) 7) (rF s77 (rR σ 7) 7) 0) := fun hf => GK.trans (KA45 (zc77 hf)) (GK.up (N := rF s45 (rR σ 7) 7) (N' := rF s77 (rR σ 7) 7) (c := 0) (by first | assumption | omega | (simp only [rF_sT, rF_sA]; omega))) (Or.inr (Or.inl rfl))
      have Gu35 : Im (fz s77 = 0) (GS s77 (rR σ 7) g45) := fun hf => GS.mv hp_2 (G45 (zc77 hf)) R77 (by first | assumption | omega | (simp only [rF_sT, rF_sA]; omega)) (by first | (exact Int.le_of_eq (Eq.symm (by assumption))) | omega | (simp only [rF_sT, rF_sA]; omega))
      have rNMp_77 := e77_0 I45_3; clear e77_0
      have TPRp_77 := e77_1 TPRp_45; clear e77_1
      have WNp_77 := e77_2 I45_4; clear e77_2
      have PNp_77 := e77_3 I45_5; clear e77_3
      have CCp_77 := e77_4 CCp_45; clear e77_4
      refine ⟨(by (try simp only [pre_X14_here, Ks77]); (all_goals (repeat' (first | with_reducible intro _ | with_reducible apply And.intro | with_reducible refine Exists.intro g45 ?_ | with_reducible refine Im.and ?_ ?_))); all_goals (first | assumption | trivial | ((with_reducible refine Im.i fun hf_ => ?_); first | exact (A77 hf_) | exact (Gu35 hf_) | exact (Ku34 hf_) | exact (Ou32 hf_).cst | exact (Lu33 hf_) | exact ok1.i | (exact LI.z (fun h => absurd h (by decide))) | (exact absurd hf_ (by omega)) | omega) | (unfold NBP; (try simp only [Ks77]); omega) | (unfold NBQ; (try simp only [Ks77]); omega) | omega | (have zz_ := fz_z (by assumption); omega) | (split <;> omega) | done)), ?_⟩
      intro v81 hv81 q81
      unfold rng at hv81
      unfold post_X14_here at q81
      obtain ⟨q81_1, q81_2⟩ := q81
      (try simp only [Ks77, NBP, NBQ] at q81_1 q81_2)
      refine ⟨fun c86 => ?_, fun c86 => ?_⟩
      · refine ⟨(by (try simp only [pre_X14_tagName, Ks77]); (all_goals (repeat' (first | with_reducible intro _ | with_reducible apply And.intro | with_reducible refine Exists.intro g45 ?_ | with_reducible refine Im.and ?_ ?_))); all_goals (first | assumption | trivial | ((with_reducible refine Im.i fun hf_ => ?_); first | exact (A77 hf_) | exact (Gu35 hf_) | exact (Ku34 hf_) | exact (Ou32 hf_).cst | exact (Lu33 hf_) | exact ok1.i | (exact LI.z (fun h => absurd h (by decide))) | (exact absurd hf_ (by omega)) | omega) | (unfold NBP; (try simp only [Ks77]); omega) | (unfold NBQ; (try simp only [Ks77]); omega) | omega | (have zz_ := fz_z (by assumption); omega) | (split <;> omega) | done)), ?_⟩
        intro v137 s137 hv137 Ws137 e137_0 e137_1 e137_2 e137_3 e137_4 e137_5 e137_6 e137_7 e137_8 e137_9 e137_10 e137_11 e137_12 e137_13 e137_14 e137_15 e137_16 e137_17 R137 q137
        unfold rng at hv137
        have q137 := dig_tagName q137 (by (try simp only [Ks77]); omega) (by (try simp only [Ks77]); omega) (by (try simp only [Ks77]); omega)
        obtain ⟨q137_1, q137_2, q137_3, q137_4, q137_5, q137_6, q137_7, q137_8, q137_9, q137_10, q137_11, q137_12⟩ := q137
        (try simp only [Ks77, NBP, NBQ] at q137_1 q137_2 q137_3 q137_4 q137_5 q137_6 q137_7 q137_8 q137_9 q137_10 q137_11 q137_12 e137_0 e137_1 e137_2 e137_3 e137_4 e137_5 e137_6 e137_7 e137_8 e137_9 e137_10 e137_11 e137_12 e137_13 e137_14 e137_15 e137_16 e137_17 R137)
        have Ks137 : rR s137 7 = rR σ 7 := by first | assumption | ((try simp only [rR_sF, rR_sA, rR_sT, rR_sL] at e137_0 e137_1 e137_2 e137_3 e137_4 e137_5 e137_6 e137_7 e137_8 e137_9 e137_10 e137_11 e137_12 e137_13 e137_14 e137_15 e137_16 e137_17 R137); omega)
        have zr137 := fz_rng s137
        have zc137 : fz s137 = 0 → fz s77 = 0 := fun hf => by omega
        have A137 : Im (fz s137 = 0) (RG σ s137 (rR σ 7) 0) := fun hf => RG.trk hp_2 (A77 (zc137 hf)) R137 (Or.inr (Or.inl rfl))
        have Ou36 : Im (fz s137 = 0) _ := fun hf => OP.gk0 (Ou32 (zc137 hf)) (GK.up (g := g45) (N := rF s77 (rR σ 7) 7) (N' := rF s137 (rR σ 7) 7) (c := 0) (by first | assumption | omega | (simp only [rF_sT, rF_sA]; omega)))
        have Lu37 : Im (fz s137 = 0) _ := fun hf => LI.gk0 hp_2 (Lu33 (zc137 hf)) (Ou32 (zc137 hf)) R137 (GK.up (g := g45) (N := rF s77 (rR σ 7) 7) (N' := rF s137 (rR σ 7) 7) (c := 0) (by first | assumption | omega | (simp only [rF_sT, rF_sA]; omega)))
        have Ku38 : Im (fz s137 = 0) (GK g g45 (rF σ (rR σ 7) 7) (rF s137 (rR σ 7) 7) 0) := fun hf => GK.trans (Ku34 (zc137 hf)) (GK.up (N := rF s77 (rR σ 7) 7) (N' := rF s137 (rR σ 7) 7) (c := 0) (by first | assumption | omega | (simp only [rF_sT, rF_sA]; omega))) (Or.inr (Or.inl rfl))
        have Gu39 : Im (fz s137 = 0) (GS s137 (rR σ 7) g45) := fun hf => GS.mv hp_2 (Gu35 (zc137 hf)) R137 (by first | assumption | omega | (simp only [rF_sT, rF_sA]; omega)) (by first | (exact Int.le_of_eq (Eq.symm (by assumption))) | omega | (simp only [rF_sT, rF_sA]; omega))
        have TPRp_137 := e137_0 TPRp_77; clear e137_0
        have WNp_137 := e137_1 WNp_77; clear e137_1
        have PNp_137 := e137_2 PNp_77; clear e137_2
        have CCp_137 := e137_3 CCp_77; clear e137_3
        refine ⟨(by (try simp only [pre_X14_node_t, Ks137]); (all_goals (repeat' (first | with_reducible intro _ | with_reducible apply And.intro | with_reducible refine Exists.intro g45 ?_ | with_reducible refine Im.and ?_ ?_))); all_goals (first | assumption | trivial | ((with_reducible refine Im.i fun hf_ => ?_); first | exact (A137 hf_) | exact (Gu39 hf_) | exact (Ku38 hf_) | exact (Ou36 hf_).cst | exact (Lu37 hf_) | exact ok1.i | (exact LI.z (fun h => absurd h (by decide))) | (exact absurd hf_ (by omega)) | omega) | (unfold NBP; (try simp only [Ks137]); omega) | (unfold NBQ; (try simp only [Ks137]); omega) | omega | (have zz_ := fz_z (by assumption); omega) | (split <;> omega) | done)), ?_⟩
        intro v142 s142 hv142 Ws142 e142_0 e142_1 e142_2 e142_3 e142_4 e142_5 e142_6 e142_7 e142_8 e142_9 e142_10 e142_11 e142_12 e142_13 e142_14 e142_15 e142_16 e142_17 e142_18 e142_19 e142_20 e142_21 e142_22 q142
        unfold rng at hv142
        unfold post_X14_node_t at q142
        obtain ⟨q142_1, q142_2, q142_3, q142_4, q142_5, q142_6, q142_7, q142_8, q142_9, q142_10⟩ := q142
        (try simp only [Ks137, NBP, NBQ] at q142_1 q142_2 q142_3 q142_4 q142_5 q142_6 q142_7 q142_8 q142_9 q142_10 e142_0 e142_1 e142_2 e142_3 e142_4 e142_5 e142_6 e142_7 e142_8 e142_9 e142_10 e142_11 e142_12 e142_13 e142_14 e142_15 e142_16 e142_17 e142_18 e142_19 e142_20 e142_21 e142_22)
        have Ks142 : rR s142 7 = rR σ 7 := by first | assumption | ((try simp only [rR_sF, rR_sA, rR_sT, rR_sL] at e142_0 e142_1 e142_2 e142_3 e142_4 e142_5 e142_6 e142_7 e142_8 e142_9 e142_10 e142_11 e142_12 e142_13 e142_14 e142_15 e142_16 e142_17 e142_18 e142_19 e142_20 e142_21 e142_22); omega)
        have zr142 := fz_rng s142
        have zc142 : fz s142 = 0 → fz s137 = 0 := fun hf => by omega
        have A142 : Im (fz s142 = 0) (RG σ s142 (rR σ 7) 0) := fun hf => RG.trk hp_2 (A137 (zc142 hf)) q142_3 (Or.inr (Or.inl rfl))
        obtain ⟨g142, X142⟩ := EN_42 (P := fz s142 = 0) (rF s137 0 29) (rF s45 0 31) hp_2 (fun hf => Gu39 (zc142 hf)) (fun hf => q142_3) q142_1 q142_2 q142_4 q142_5 q142_6 q142_9 (fun hf => by (try simp only [rF_sT, rF_sA]); (repeat' (with_reducible apply And.intro)) <;> first | trivial | omega)
        have Ou40 : Im (fz s142 = 0) _ := fun hf => OP.gk0 (Ou36 (zc142 hf)) (X142 hf).2.1
        have Lu41 : Im (fz s142 = 0) _ := fun hf => LI.gk0 hp_2 (Lu37 (zc142 hf)) (Ou36 (zc142 hf)) q142_3 (X142 hf).2.1
        have Ku42 : Im (fz s142 = 0) (GK g g142 (rF σ (rR σ 7) 7) (rF s142 (rR σ 7) 7) 0) := fun hf => GK.gs (Ku38 (zc142 hf)) (X142 hf).2.1
        have Gu43 : Im (fz s142 = 0) _ := fun hf => (X142 hf).1
        have O142 : Im (fz s142 = 0) _ := fun hf => (X142 hf).2.2.1
        have rNMp_142 := e142_0 q137_4; clear e142_0
        have TPRp_142 := e142_1 TPRp_137; clear e142_1
        have WNp_142 := e142_2 WNp_137; clear e142_2
        have CCp_142 := e142_3 CCp_137; clear e142_3
        refine ⟨fun c148 => ?_, fun c148 => ?_⟩
        · refine ⟨(by (try simp only [Ks142]); (all_goals (repeat' (first | with_reducible intro _ | with_reducible apply And.intro | with_reducible refine Exists.intro g142 ?_ | with_reducible refine Im.and ?_ ?_))); all_goals (first | assumption | trivial | ((with_reducible refine Im.i fun hf_ => ?_); first | exact (A142 hf_) | exact (Gu43 hf_) | exact (Ku42 hf_) | exact (Ou40 hf_).cst | exact (Lu41 hf_) | exact (O142 hf_).cst | exact ok1.i | (exact LI.z (fun h => absurd h (by decide))) | (exact absurd hf_ (by omega)) | omega) | (unfold NBP; (try simp only [Ks142]); omega) | (unfold NBQ; (try simp only [Ks142]); omega) | omega | (have zz_ := fz_z (by assumption); omega) | (split <;> omega) | done)), ?_⟩
          obtain ⟨gu44, Xu45⟩ := EC_42 (P := fz s142 = 0) (rF s137 0 29) Gu43 O142 (fun hf => by omega)
          have Ou46 : Im (fz s142 = 0) _ := fun hf => OP.kc (Ou40 hf) (Xu45 hf).2.2 (by omega)
          have Lu47 : Im (fz s142 = 0) _ := fun hf => LI.kc (Lu41 hf) (Xu45 hf).2.2
          have O142u48 : Im (fz s142 = 0) _ := fun hf => (Xu45 hf).2.1
          have Ku49 : Im (fz s142 = 0) (GK g gu44 (rF σ (rR σ 7) 7) (rF s142 (rR σ 7) 7) 0) := fun hf => GK.kc (Ku42 hf) (Xu45 hf).2.2 (by omega)
          have Gu50 : Im (fz s142 = 0) _ := fun hf => (Xu45 hf).1
          have A175 : Im (fz s142 = 0) (RG σ (sT s142 (rR σ 7) 5 y45_2 v142) (rR σ 7) 0) := fun hf => RG.tst (f := 5) (i := y45_2) (x := v142) hp_2 (A142 hf) (by decide) (by omega)
          obtain ⟨gs175, Xs175⟩ := EA_2_41 (P := fz s142 = 0) hp_2 Gu50 Ou46 Lu47 O142u48 (fun _ h => h) (fun hf => by omega)
          have Ku51 : Im (fz s142 = 0) (GK g gs175 (rF σ (rR σ 7) 7) (rF s142 (rR σ 7) 7) 0) := fun hf => GK.ks (Ku49 hf) (Xs175 hf).2.2.2.1 (by omega) (by omega)
          have Gu52 : Im (fz s142 = 0) _ := fun hf => (Xs175 hf).1
          have Ou53 : Im (fz s142 = 0) _ := fun hf => (Xs175 hf).2.1
          have Lu54 : Im (fz s142 = 0) _ := fun hf => (Xs175 hf).2.2.1
          refine ⟨(by (try simp only [pre_X14_blanks, reduceIte, and_true, true_and, and_false, false_and, and_self, Nat.reduceEqDiff, fz_sA, rF_sA, rA_sA, rR_sA, rF_sT, rR_sT, sT_sF, fz_sT, rA_sT26 hp_2, rA_sT27 hp_2, rA_sT34 hp_2, rA_sT35 hp_2, rA_sT36 hp_2, rA_sT37 hp_2, rA_sT40 hp_2, TPRp_sT hp_2, WNp_sT hp_2, VMp_sT hp_2, KYp_sT hp_2, PPp_sT hp_2, WFp_sT hp_2, CCp_sT hp_2, rNMp_sT5, PNp_sT5, rk_n0 hp_2, Ks142]); (all_goals (repeat' (first | with_reducible intro _ | with_reducible apply And.intro | with_reducible refine Exists.intro gs175 ?_ | with_reducible refine Im.and ?_ ?_))); all_goals (first | assumption | trivial | ((with_reducible refine Im.i fun hf_ => ?_); first | exact (A175 hf_) | exact (Gu52 hf_) | exact (Ku51 hf_) | exact (Ou53 hf_).cst | exact (Lu54 hf_) | exact ok1.i | (exact LI.z (fun h => absurd h (by decide))) | (exact absurd hf_ (by omega)) | omega) | (unfold NBP; (try simp only [reduceIte, and_true, true_and, and_false, false_and, and_self, Nat.reduceEqDiff, fz_sA, rF_sA, rA_sA, rR_sA, rF_sT, rR_sT, sT_sF, fz_sT, rA_sT26 hp_2, rA_sT27 hp_2, rA_sT34 hp_2, rA_sT35 hp_2, rA_sT36 hp_2, rA_sT37 hp_2, rA_sT40 hp_2, TPRp_sT hp_2, WNp_sT hp_2, VMp_sT hp_2, KYp_sT hp_2, PPp_sT hp_2, WFp_sT hp_2, CCp_sT hp_2, rNMp_sT5, PNp_sT5, rk_n0 hp_2, Ks142]); omega) | (unfold NBQ; (try simp only [reduceIte, and_true, true_and, and_false, false_and, and_self, Nat.reduceEqDiff, fz_sA, rF_sA, rA_sA, rR_sA, rF_sT, rR_sT, sT_sF, fz_sT, rA_sT26 hp_2, rA_sT27 hp_2, rA_sT34 hp_2, rA_sT35 hp_2, rA_sT36 hp_2, rA_sT37 hp_2, rA_sT40 hp_2, TPRp_sT hp_2, WNp_sT hp_2, VMp_sT hp_2, KYp_sT hp_2, PPp_sT hp_2, WFp_sT hp_2, CCp_sT hp_2, rNMp_sT5, PNp_sT5, rk_n0 hp_2, Ks142]); omega) | omega | (have zz_ := fz_z (by assumption); omega) | (split <;> omega) | done)), ?_⟩
          intro s180 Ws180 e180_0 e180_1 e180_2 e180_3 e180_4 e180_5 e180_6 e180_7 e180_8 e180_9 e180_10 e180_11 e180_12 e180_13 e180_14 e180_15 e180_16 e180_17 e180_18 e180_19 e180_20 e180_21 e180_22 e180_23 R180 q180
          have q180 := dig_blanks q180 (by (try simp only [reduceIte, and_true, true_and, and_false, false_and, and_self, Nat.reduceEqDiff, fz_sA, rF_sA, rA_sA, rR_sA, rF_sT, rR_sT, sT_sF, fz_sT, rA_sT26 hp_2, rA_sT27 hp_2, rA_sT34 hp_2, rA_sT35 hp_2, rA_sT36 hp_2, rA_sT37 hp_2, rA_sT40 hp_2, TPRp_sT hp_2, WNp_sT hp_2, VMp_sT hp_2, KYp_sT hp_2, PPp_sT hp_2, WFp_sT hp_2, CCp_sT hp_2, rNMp_sT5, PNp_sT5, rk_n0 hp_2, Ks142]); omega)
          obtain ⟨q180_1, q180_2⟩ := q180
          (try simp only [reduceIte, and_true, true_and, and_false, false_and, and_self, Nat.reduceEqDiff, fz_sA, rF_sA, rA_sA, rR_sA, rF_sT, rR_sT, sT_sF, fz_sT, rA_sT26 hp_2, rA_sT27 hp_2, rA_sT34 hp_2, rA_sT35 hp_2, rA_sT36 hp_2, rA_sT37 hp_2, rA_sT40 hp_2, TPRp_sT hp_2, WNp_sT hp_2, VMp_sT hp_2, KYp_sT hp_2, PPp_sT hp_2, WFp_sT hp_2, CCp_sT hp_2, rNMp_sT5, PNp_sT5, rk_n0 hp_2, Ks142, NBP, NBQ] at q180_1 q180_2 e180_0 e180_1 e180_2 e180_3 e180_4 e180_5 e180_6 e180_7 e180_8 e180_9 e180_10 e180_11 e180_12 e180_13 e180_14 e180_15 e180_16 e180_17 e180_18 e180_19 e180_20 e180_21 e180_22 e180_23 R180)
          have Ks180 : rR s180 7 = rR σ 7 := by first | assumption | ((try simp only [rR_sF, rR_sA, rR_sT, rR_sL] at e180_0 e180_1 e180_2 e180_3 e180_4 e180_5 e180_6 e180_7 e180_8 e180_9 e180_10 e180_11 e180_12 e180_13 e180_14 e180_15 e180_16 e180_17 e180_18 e180_19 e180_20 e180_21 e180_22 e180_23 R180); omega)
          have zr180 := fz_rng s180
          have zc180 : fz s180 = 0 → fz s142 = 0 := fun hf => by omega
          have A180 : Im (fz s180 = 0) (RG σ s180 (rR σ 7) 0) := fun hf => RG.trk hp_2 (A175 (zc180 hf)) R180 (Or.inr (Or.inl rfl))
          have Ou55 : Im (fz s180 = 0) _ := fun hf => OP.gk0 (Ou53 (zc180 hf)) (GK.up (g := gs175) (N := rF (sT s142 (rR σ 7) 5 y45_2 v142) (rR σ 7) 7) (N' := rF s180 (rR σ 7) 7) (c := 0) (by first | assumption | omega | (simp only [rF_sT, rF_sA]; omega)))
          have Lu56 : Im (fz s180 = 0) _ := fun hf => LI.gk0 hp_2 (Lu54 (zc180 hf)) (Ou53 (zc180 hf)) R180 (GK.up (g := gs175) (N := rF (sT s142 (rR σ 7) 5 y45_2 v142) (rR σ 7) 7) (N' := rF s180 (rR σ 7) 7) (c := 0) (by first | assumption | omega | (simp only [rF_sT, rF_sA]; omega)))
          have Ku57 : Im (fz s180 = 0) (GK g gs175 (rF σ (rR σ 7) 7) (rF s180 (rR σ 7) 7) 0) := fun hf => GK.trans (Ku51 (zc180 hf)) (GK.up (N := rF (sT s142 (rR σ 7) 5 y45_2 v142) (rR σ 7) 7) (N' := rF s180 (rR σ 7) 7) (c := 0) (by first | assumption | omega | (simp only [rF_sT, rF_sA]; omega))) (Or.inr (Or.inl rfl))
          have Gu58 : Im (fz s180 = 0) (GS s180 (rR σ 7) gs175) := fun hf => GS.mv hp_2 (Gu52 (zc180 hf)) R180 (by first | assumption | omega | (simp only [rF_sT, rF_sA]; omega)) (by first | (exact Int.le_of_eq (Eq.symm (by assumption))) | omega | (simp only [rF_sT, rF_sA]; omega))
          have rNMp_180 := e180_0 rNMp_142; clear e180_0
          have TPRp_180 := e180_1 TPRp_142; clear e180_1
          have WNp_180 := e180_2 WNp_142; clear e180_2
          have PNp_180 := e180_3 q142_10; clear e180_3
          have CCp_180 := e180_4 CCp_142; clear e180_4
          exact (by (try simp only [inv_X14_readMember_45, mu_X14_readMember_45, mu_X14_readMember_45, Ks180]); (all_goals (repeat' (first | with_reducible intro _ | with_reducible apply And.intro | with_reducible refine Exists.intro gs175 ?_ | with_reducible refine Im.and ?_ ?_))); all_goals (first | assumption | trivial | ((with_reducible refine Im.i fun hf_ => ?_); first | exact (A180 hf_) | exact (Gu58 hf_) | exact (Ku57 hf_) | exact (Ou55 hf_).cst | exact (Lu56 hf_) | exact ok1.i | (exact LI.z (fun h => absurd h (by decide))) | (exact absurd hf_ (by omega)) | omega) | (unfold NBP; (try simp only [Ks180]); omega) | (unfold NBQ; (try simp only [Ks180]); omega) | omega | (have zz_ := fz_z (by assumption); omega) | (split <;> omega) | done))
        · refine ⟨(by (try simp only [Ks142]); (all_goals (repeat' (first | with_reducible intro _ | with_reducible apply And.intro | with_reducible refine Exists.intro g142 ?_ | with_reducible refine Im.and ?_ ?_))); all_goals (first | assumption | trivial | ((with_reducible refine Im.i fun hf_ => ?_); first | exact (A142 hf_) | exact (Gu43 hf_) | exact (Ku42 hf_) | exact (Ou40 hf_).cst | exact (Lu41 hf_) | exact (O142 hf_).cst | exact ok1.i | (exact LI.z (fun h => absurd h (by decide))) | (exact absurd hf_ (by omega)) | omega) | (unfold NBP; (try simp only [Ks142]); omega) | (unfold NBQ; (try simp only [Ks142]); omega) | omega | (have zz_ := fz_z (by assumption); omega) | (split <;> omega) | done)), ?_⟩
          obtain ⟨gu59, Xu60⟩ := EC_42 (P := fz s142 = 0) (rF s137 0 29) Gu43 O142 (fun hf => by omega)
          have Ou61 : Im (fz s142 = 0) _ := fun hf => OP.kc (Ou40 hf) (Xu60 hf).2.2 (by omega)
          have Lu62 : Im (fz s142 = 0) _ := fun hf => LI.kc (Lu41 hf) (Xu60 hf).2.2
          have O142u63 : Im (fz s142 = 0) _ := fun hf => (Xu60 hf).2.1
          have Ku64 : Im (fz s142 = 0) (GK g gu59 (rF σ (rR σ 7) 7) (rF s142 (rR σ 7) 7) 0) := fun hf => GK.kc (Ku42 hf) (Xu60 hf).2.2 (by omega)
          have Gu65 : Im (fz s142 = 0) _ := fun hf => (Xu60 hf).1
          have A161 : Im (fz s142 = 0) (RG σ (sT s142 (rR σ 7) 2 y45_1 v142) (rR σ 7) 0) := fun hf => RG.tst (f := 2) (i := y45_1) (x := v142) hp_2 (A142 hf) (by decide) (by omega)
          obtain ⟨gs161, Xs161⟩ := EH_2_41 (P := fz s142 = 0) hp_2 Gu65 Ou61 O142u63 (fun _ h => h) (fun hf => by omega)
          have Ku66 : Im (fz s142 = 0) (GK g gs161 (rF σ (rR σ 7) 7) (rF s142 (rR σ 7) 7) 0) := fun hf => GK.ks (Ku64 hf) (Xs161 hf).2.2.2.1 (by omega) (by omega)
          have Gu67 : Im (fz s142 = 0) _ := fun hf => (Xs161 hf).1
          have Ou68 : Im (fz s142 = 0) _ := fun hf => (Xs161 hf).2.1
          have Lu69 : Im (fz s142 = 0) _ := fun hf => (Xs161 hf).2.2.1
          refine ⟨(by (try simp only [pre_X14_blanks, reduceIte, and_true, true_and, and_false, false_and, and_self, Nat.reduceEqDiff, fz_sA, rF_sA, rA_sA, rR_sA, rF_sT, rR_sT, sT_sF, fz_sT, rA_sT26 hp_2, rA_sT27 hp_2, rA_sT34 hp_2, rA_sT35 hp_2, rA_sT36 hp_2, rA_sT37 hp_2, rA_sT40 hp_2, TPRp_sT hp_2, WNp_sT hp_2, VMp_sT hp_2, KYp_sT hp_2, PPp_sT hp_2, WFp_sT hp_2, CCp_sT hp_2, rNMp_sT2, PNp_sT2, rk_n0 hp_2, Ks142]); (all_goals (repeat' (first | with_reducible intro _ | with_reducible apply And.intro | with_reducible refine Exists.intro gs161 ?_ | with_reducible refine Im.and ?_ ?_))); all_goals (first | assumption | trivial | ((with_reducible refine Im.i fun hf_ => ?_); first | exact (A161 hf_) | exact (Gu67 hf_) | exact (Ku66 hf_) | exact (Ou68 hf_).cst | exact (Lu69 hf_) | exact ok1.i | (exact LI.z (fun h => absurd h (by decide))) | (exact absurd hf_ (by omega)) | omega) | (unfold NBP; (try simp only [reduceIte, and_true, true_and, and_false, false_and, and_self, Nat.reduceEqDiff, fz_sA, rF_sA, rA_sA, rR_sA, rF_sT, rR_sT, sT_sF, fz_sT, rA_sT26 hp_2, rA_sT27 hp_2, rA_sT34 hp_2, rA_sT35 hp_2, rA_sT36 hp_2, rA_sT37 hp_2, rA_sT40 hp_2, TPRp_sT hp_2, WNp_sT hp_2, VMp_sT hp_2, KYp_sT hp_2, PPp_sT hp_2, WFp_sT hp_2, CCp_sT hp_2, rNMp_sT2, PNp_sT2, rk_n0 hp_2, Ks142]); omega) | (unfold NBQ; (try simp only [reduceIte, and_true, true_and, and_false, false_and, and_self, Nat.reduceEqDiff, fz_sA, rF_sA, rA_sA, rR_sA, rF_sT, rR_sT, sT_sF, fz_sT, rA_sT26 hp_2, rA_sT27 hp_2, rA_sT34 hp_2, rA_sT35 hp_2, rA_sT36 hp_2, rA_sT37 hp_2, rA_sT40 hp_2, TPRp_sT hp_2, WNp_sT hp_2, VMp_sT hp_2, KYp_sT hp_2, PPp_sT hp_2, WFp_sT hp_2, CCp_sT hp_2, rNMp_sT2, PNp_sT2, rk_n0 hp_2, Ks142]); omega) | omega | (have zz_ := fz_z (by assumption); omega) | (split <;> omega) | done)), ?_⟩
          intro s180 Ws180 e180_0 e180_1 e180_2 e180_3 e180_4 e180_5 e180_6 e180_7 e180_8 e180_9 e180_10 e180_11 e180_12 e180_13 e180_14 e180_15 e180_16 e180_17 e180_18 e180_19 e180_20 e180_21 e180_22 e180_23 R180 q180
          have q180 := dig_blanks q180 (by (try simp only [reduceIte, and_true, true_and, and_false, false_and, and_self, Nat.reduceEqDiff, fz_sA, rF_sA, rA_sA, rR_sA, rF_sT, rR_sT, sT_sF, fz_sT, rA_sT26 hp_2, rA_sT27 hp_2, rA_sT34 hp_2, rA_sT35 hp_2, rA_sT36 hp_2, rA_sT37 hp_2, rA_sT40 hp_2, TPRp_sT hp_2, WNp_sT hp_2, VMp_sT hp_2, KYp_sT hp_2, PPp_sT hp_2, WFp_sT hp_2, CCp_sT hp_2, rNMp_sT2, PNp_sT2, rk_n0 hp_2, Ks142]); omega)
          obtain ⟨q180_1, q180_2⟩ := q180
          (try simp only [reduceIte, and_true, true_and, and_false, false_and, and_self, Nat.reduceEqDiff, fz_sA, rF_sA, rA_sA, rR_sA, rF_sT, rR_sT, sT_sF, fz_sT, rA_sT26 hp_2, rA_sT27 hp_2, rA_sT34 hp_2, rA_sT35 hp_2, rA_sT36 hp_2, rA_sT37 hp_2, rA_sT40 hp_2, TPRp_sT hp_2, WNp_sT hp_2, VMp_sT hp_2, KYp_sT hp_2, PPp_sT hp_2, WFp_sT hp_2, CCp_sT hp_2, rNMp_sT2, PNp_sT2, rk_n0 hp_2, Ks142, NBP, NBQ] at q180_1 q180_2 e180_0 e180_1 e180_2 e180_3 e180_4 e180_5 e180_6 e180_7 e180_8 e180_9 e180_10 e180_11 e180_12 e180_13 e180_14 e180_15 e180_16 e180_17 e180_18 e180_19 e180_20 e180_21 e180_22 e180_23 R180)
          have Ks180 : rR s180 7 = rR σ 7 := by first | assumption | ((try simp only [rR_sF, rR_sA, rR_sT, rR_sL] at e180_0 e180_1 e180_2 e180_3 e180_4 e180_5 e180_6 e180_7 e180_8 e180_9 e180_10 e180_11 e180_12 e180_13 e180_14 e180_15 e180_16 e180_17 e180_18 e180_19 e180_20 e180_21 e180_22 e180_23 R180); omega)
          have zr180 := fz_rng s180
          have zc180 : fz s180 = 0 → fz s142 = 0 := fun hf => by omega
          have A180 : Im (fz s180 = 0) (RG σ s180 (rR σ 7) 0) := fun hf => RG.trk hp_2 (A161 (zc180 hf)) R180 (Or.inr (Or.inl rfl))
          have Ou70 : Im (fz s180 = 0) _ := fun hf => OP.gk0 (Ou68 (zc180 hf)) (GK.up (g := gs161) (N := rF (sT s142 (rR σ 7) 2 y45_1 v142) (rR σ 7) 7) (N' := rF s180 (rR σ 7) 7) (c := 0) (by first | assumption | omega | (simp only [rF_sT, rF_sA]; omega)))
          have Lu71 : Im (fz s180 = 0) _ := fun hf => LI.gk0 hp_2 (Lu69 (zc180 hf)) (Ou68 (zc180 hf)) R180 (GK.up (g := gs161) (N := rF (sT s142 (rR σ 7) 2 y45_1 v142) (rR σ 7) 7) (N' := rF s180 (rR σ 7) 7) (c := 0) (by first | assumption | omega | (simp only [rF_sT, rF_sA]; omega)))
          have Ku72 : Im (fz s180 = 0) (GK g gs161 (rF σ (rR σ 7) 7) (rF s180 (rR σ 7) 7) 0) := fun hf => GK.trans (Ku66 (zc180 hf)) (GK.up (N := rF (sT s142 (rR σ 7) 2 y45_1 v142) (rR σ 7) 7) (N' := rF s180 (rR σ 7) 7) (c := 0) (by first | assumption | omega | (simp only [rF_sT, rF_sA]; omega))) (Or.inr (Or.inl rfl))
          have Gu73 : Im (fz s180 = 0) (GS s180 (rR σ 7) gs161) := fun hf => GS.mv hp_2 (Gu67 (zc180 hf)) R180 (by first | assumption | omega | (simp only [rF_sT, rF_sA]; omega)) (by first | (exact Int.le_of_eq (Eq.symm (by assumption))) | omega | (simp only [rF_sT, rF_sA]; omega))
          have rNMp_180 := e180_0 rNMp_142; clear e180_0
          have TPRp_180 := e180_1 TPRp_142; clear e180_1
          have WNp_180 := e180_2 WNp_142; clear e180_2
          have PNp_180 := e180_3 q142_10; clear e180_3
          have CCp_180 := e180_4 CCp_142; clear e180_4
          exact (by (try simp only [inv_X14_readMember_45, mu_X14_readMember_45, mu_X14_readMember_45, Ks180]); (all_goals (repeat' (first | with_reducible intro _ | with_reducible apply And.intro | with_reducible refine Exists.intro gs161 ?_ | with_reducible refine Im.and ?_ ?_))); all_goals (first | assumption | trivial | ((with_reducible refine Im.i fun hf_ => ?_); first | exact (A180 hf_) | exact (Gu73 hf_) | exact (Ku72 hf_) | exact (Ou70 hf_).cst | exact (Lu71 hf_) | exact ok1.i | (exact LI.z (fun h => absurd h (by decide))) | (exact absurd hf_ (by omega)) | omega) | (unfold NBP; (try simp only [Ks180]); omega) | (unfold NBQ; (try simp only [Ks180]); omega) | omega | (have zz_ := fz_z (by assumption); omega) | (split <;> omega) | done))
      · intro hr_; unfold rng at hr_
        refine ⟨(by (try simp only [rng, Ks77]); (all_goals (repeat' (first | with_reducible intro _ | with_reducible apply And.intro | with_reducible refine Exists.intro g45 ?_ | with_reducible refine Im.and ?_ ?_))); all_goals (first | assumption | trivial | ((with_reducible refine Im.i fun hf_ => ?_); first | exact (A77 hf_) | exact (Gu35 hf_) | exact (Ku34 hf_) | exact (Ou32 hf_).cst | exact (Lu33 hf_) | exact ok1.i | (exact LI.z (fun h => absurd h (by decide))) | (exact absurd hf_ (by omega)) | omega) | (unfold NBP; (try simp only [Ks77]); omega) | (unfold NBQ; (try simp only [Ks77]); omega) | omega | (have zz_ := fz_z (by assumption); omega) | (split <;> omega) | done)), ?_⟩
        refine ⟨(by (try simp only [pre_X14_node_t, reduceIte, and_true, true_and, and_false, false_and, and_self, Nat.reduceEqDiff, fz_sF29, rF_sF, rA_sF, rR_sF, tr_sF, rNMp_sF, PNp_sF, GS_F29, OP_F29, NR_F29, LI_F29, RG_l29, RG_r29, TPRp_sF29, WNp_sF29, VMp_sF29, KYp_sF29, PPp_sF29, WFp_sF29, CCp_sF29, rk_n0 hp_2, Ks77]); (all_goals (repeat' (first | with_reducible intro _ | with_reducible apply And.intro | with_reducible refine Exists.intro g45 ?_ | with_reducible refine Im.and ?_ ?_))); all_goals (first | assumption | trivial | ((with_reducible refine Im.i fun hf_ => ?_); first | exact (A77 hf_) | exact (Gu35 hf_) | exact (Ku34 hf_) | exact (Ou32 hf_).cst | exact (Lu33 hf_) | exact ok1.i | (exact LI.z (fun h => absurd h (by decide))) | (exact absurd hf_ (by omega)) | omega) | (unfold NBP; (try simp only [reduceIte, and_true, true_and, and_false, false_and, and_self, Nat.reduceEqDiff, fz_sF29, rF_sF, rA_sF, rR_sF, tr_sF, rNMp_sF, PNp_sF, GS_F29, OP_F29, NR_F29, LI_F29, RG_l29, RG_r29, TPRp_sF29, WNp_sF29, VMp_sF29, KYp_sF29, PPp_sF29, WFp_sF29, CCp_sF29, rk_n0 hp_2, Ks77]); omega) | (unfold NBQ; (try simp only [reduceIte, and_true, true_and, and_false, false_and, and_self, Nat.reduceEqDiff, fz_sF29, rF_sF, rA_sF, rR_sF, tr_sF, rNMp_sF, PNp_sF, GS_F29, OP_F29, NR_F29, LI_F29, RG_l29, RG_r29, TPRp_sF29, WNp_sF29, VMp_sF29, KYp_sF29, PPp_sF29, WFp_sF29, CCp_sF29, rk_n0 hp_2, Ks77]); omega) | omega | (have zz_ := fz_z (by assumption); omega) | (split <;> omega) | done)), ?_⟩
        intro v105 s105 hv105 Ws105 e105_0 e105_1 e105_2 e105_3 e105_4 e105_5 e105_6 e105_7 e105_8 e105_9 e105_10 e105_11 e105_12 e105_13 e105_14 e105_15 e105_16 e105_17 e105_18 e105_19 e105_20 e105_21 e105_22 q105
        unfold rng at hv105
        unfold post_X14_node_t at q105
        obtain ⟨q105_1, q105_2, q105_3, q105_4, q105_5, q105_6, q105_7, q105_8, q105_9, q105_10⟩ := q105
        (try simp only [reduceIte, and_true, true_and, and_false, false_and, and_self, Nat.reduceEqDiff, fz_sF29, rF_sF, rA_sF, rR_sF, tr_sF, rNMp_sF, PNp_sF, GS_F29, OP_F29, NR_F29, LI_F29, RG_l29, RG_r29, TPRp_sF29, WNp_sF29, VMp_sF29, KYp_sF29, PPp_sF29, WFp_sF29, CCp_sF29, rk_n0 hp_2, Ks77, NBP, NBQ] at q105_1 q105_2 q105_3 q105_4 q105_5 q105_6 q105_7 q105_8 q105_9 q105_10 e105_0 e105_1 e105_2 e105_3 e105_4 e105_5 e105_6 e105_7 e105_8 e105_9 e105_10 e105_11 e105_12 e105_13 e105_14 e105_15 e105_16 e105_17 e105_18 e105_19 e105_20 e105_21 e105_22)
        have Ks105 : rR s105 7 = rR σ 7 := by first | assumption | ((try simp only [rR_sF, rR_sA, rR_sT, rR_sL] at e105_0 e105_1 e105_2 e105_3 e105_4 e105_5 e105_6 e105_7 e105_8 e105_9 e105_10 e105_11 e105_12 e105_13 e105_14 e105_15 e105_16 e105_17 e105_18 e105_19 e105_20 e105_21 e105_22); omega)
        have zr105 := fz_rng s105
        have zc105 : fz s105 = 0 → fz s77 = 0 := fun hf => by omega
        have A105 : Im (fz s105 = 0) (RG σ s105 (rR σ 7) 0) := fun hf => RG.trk hp_2 (A77 (zc105 hf)) q105_3 (Or.inr (Or.inl rfl))
        obtain ⟨g105, X105⟩ := EN_43 (P := fz s105 = 0) ((rF s77 0 29) + 1) (rF s45 0 31) hp_2 (fun hf => Gu35 (zc105 hf)) (fun hf => q105_3) q105_1 q105_2 q105_4 q105_5 q105_6 q105_9 (fun hf => by (try simp only [rF_sT, rF_sA]); (repeat' (with_reducible apply And.intro)) <;> first | trivial | omega)
        have Ou74 : Im (fz s105 = 0) _ := fun hf => OP.gk0 (Ou32 (zc105 hf)) (X105 hf).2.1
        have Lu75 : Im (fz s105 = 0) _ := fun hf => LI.gk0 hp_2 (Lu33 (zc105 hf)) (Ou32 (zc105 hf)) q105_3 (X105 hf).2.1
        have Ku76 : Im (fz s105 = 0) (GK g g105 (rF σ (rR σ 7) 7) (rF s105 (rR σ 7) 7) 0) := fun hf => GK.gs (Ku34 (zc105 hf)) (X105 hf).2.1
        have Gu77 : Im (fz s105 = 0) _ := fun hf => (X105 hf).1
        have O105 : Im (fz s105 = 0) _ := fun hf => (X105 hf).2.2.1
        have rNMp_105 := e105_0 rNMp_77; clear e105_0
        have TPRp_105 := e105_1 TPRp_77; clear e105_1
        have WNp_105 := e105_2 WNp_77; clear e105_2
        have CCp_105 := e105_3 CCp_77; clear e105_3
        refine ⟨g105, ?_⟩
        refine ⟨(by (try simp only [pre_X14_readArg, Ks105]); (all_goals (repeat' (first | with_reducible intro _ | with_reducible apply And.intro | with_reducible refine Exists.intro g105 ?_ | with_reducible refine Im.and ?_ ?_))); all_goals (first | assumption | trivial | ((with_reducible refine Im.i fun hf_ => ?_); first | exact (A105 hf_) | exact (Gu77 hf_) | exact (Ku76 hf_) | exact (Ou74 hf_).cst | exact (Lu75 hf_) | exact (O105 hf_).cst | exact ok1.i | (exact LI.z (fun h => absurd h (by decide))) | (exact absurd hf_ (by omega)) | omega) | (unfold NBP; (try simp only [Ks105]); omega) | (unfold NBQ; (try simp only [Ks105]); omega) | omega | (have zz_ := fz_z (by assumption); omega) | (split <;> omega) | done)), ?_⟩
        refine ⟨(by (try simp only [rk_X14_readArg, Ks105]); (all_goals (repeat' (first | with_reducible intro _ | with_reducible apply And.intro | with_reducible refine Exists.intro g105 ?_ | with_reducible refine Im.and ?_ ?_))); all_goals (first | assumption | trivial | ((with_reducible refine Im.i fun hf_ => ?_); first | exact (A105 hf_) | exact (Gu77 hf_) | exact (Ku76 hf_) | exact (Ou74 hf_).cst | exact (Lu75 hf_) | exact (O105 hf_).cst | exact ok1.i | (exact LI.z (fun h => absurd h (by decide))) | (exact absurd hf_ (by omega)) | omega) | (unfold NBP; (try simp only [Ks105]); omega) | (unfold NBQ; (try simp only [Ks105]); omega) | omega | (have zz_ := fz_z (by assumption); omega) | (split <;> omega) | done)), ?_⟩
        intro v120 s120 hv120 Ws120 e120_0 e120_1 e120_2 e120_3 e120_4 e120_5 e120_6 e120_7 e120_8 e120_9 q120
        unfold rng at hv120
        unfold post_X14_readArg at q120
        obtain ⟨q120_1, q120_2, q120_3, q120_4, q120_5, q120_6, q120_7, q120_8, q120_9⟩ := q120
        (try simp only [Ks105, NBP, NBQ] at q120_1 q120_2 q120_3 q120_4 q120_5 q120_6 q120_7 q120_8 q120_9 e120_0 e120_1 e120_2 e120_3 e120_4 e120_5 e120_6 e120_7 e120_8 e120_9)
        have Ks120 : rR s120 7 = rR σ 7 := by first | assumption | ((try simp only [rR_sF, rR_sA, rR_sT, rR_sL] at e120_0 e120_1 e120_2 e120_3 e120_4 e120_5 e120_6 e120_7 e120_8 e120_9); omega)
        have zr120 := fz_rng s120
        have zc120 : fz s120 = 0 → fz s105 = 0 := fun hf => by omega
        have A120 : Im (fz s120 = 0) (RG σ s120 (rR σ 7) 0) := fun hf => RG.trk hp_2 (A105 (zc120 hf)) (q120_8 (by omega)) (Or.inr (Or.inl rfl))
        obtain ⟨g120, X120⟩ := q120_9
        have Ou78 : Im (fz s120 = 0) _ := fun hf => OP.gk0 (Ou74 (zc120 hf)) ((X120 hf).2.1)
        have Lu79 : Im (fz s120 = 0) _ := fun hf => LI.gk0 hp_2 (Lu75 (zc120 hf)) (Ou74 (zc120 hf)) (q120_8 (by omega)) ((X120 hf).2.1)
        have O105u80 : Im (fz s120 = 0) _ := fun hf => OP.gk0 (O105 (zc120 hf)) ((X120 hf).2.1)
        have Ku81 : Im (fz s120 = 0) (GK g g120 (rF σ (rR σ 7) 7) (rF s120 (rR σ 7) 7) 0) := fun hf => GK.trans (Ku76 (zc120 hf)) ((X120 hf).2.1) (Or.inr (Or.inl rfl))
        have Gu82 : Im (fz s120 = 0) (GS s120 (rR σ 7) g120) := fun hf => (X120 hf).1
        have r120 : Im (fz s120 = 0) _ := fun hf => (X120 hf).2.2.1
        have TPRp_120 := e120_0 TPRp_105; clear e120_0
        have CCp_120 := e120_1 CCp_105; clear e120_1
        refine ⟨(by (try simp only [Ks120]); (all_goals (repeat' (first | with_reducible intro _ | with_reducible apply And.intro | with_reducible refine Exists.intro g120 ?_ | with_reducible refine Im.and ?_ ?_))); all_goals (first | assumption | trivial | ((with_reducible refine Im.i fun hf_ => ?_); first | exact (A120 hf_) | exact (Gu82 hf_) | exact (Ku81 hf_) | exact (Ou78 hf_).cst | exact (Lu79 hf_) | exact (O105u80 hf_).cst | exact (r120 hf_).cst | exact ok1.i | (exact LI.z (fun h => absurd h (by decide))) | (exact absurd hf_ (by omega)) | omega) | (unfold NBP; (try simp only [Ks120]); omega) | (unfold NBQ; (try simp only [Ks120]); omega) | omega | (have zz_ := fz_z (by assumption); omega) | (split <;> omega) | done)), ?_⟩
        have A123 : Im (fz s120 = 0) (RG σ (sT s120 (rR σ 7) 1 v105 v120) (rR σ 7) 0) := fun hf => RG.tst (f := 1) (i := v105) (x := v120) hp_2 (A120 hf) (by decide) (by omega)
        obtain ⟨gs123, Xs123⟩ := EH_1_43 (P := fz s120 = 0) hp_2 Gu82 O105u80 r120 (fun _ h => h) (fun hf => by omega)
        have Ou83 : Im (fz s120 = 0) _ := fun hf => OP.ks (ff := 1) (i := v105) (z := v120) (Ou78 hf) (Xs123 hf).2.2.2.1 (by omega) (Xs123 hf).2.2.2.2.2.2
        have Lu84 : Im (fz s120 = 0) _ := fun hf => LI.ks (ff := 1) (fi := v105) (z := v120) hp_2 (by decide) (Lu79 hf) (Ou78 hf) (Xs123 hf).2.2.2.1 (by omega) (Xs123 hf).2.2.2.2.1.2 (Xs123 hf).2.2.2.2.2 (fun h => absurd h (by decide))
        have Ku85 : Im (fz s120 = 0) (GK g gs123 (rF σ (rR σ 7) 7) (rF s120 (rR σ 7) 7) 0) := fun hf => GK.ks (Ku81 hf) (Xs123 hf).2.2.2.1 (by omega) (by omega)
        have Gu86 : Im (fz s120 = 0) _ := fun hf => (Xs123 hf).1
        have O105u87 : Im (fz s120 = 0) _ := fun hf => (Xs123 hf).2.1
        have L123u88 : Im (fz s120 = 0) _ := fun hf => (Xs123 hf).2.2.1
        refine ⟨(by (try simp only [pre_X14_need, reduceIte, and_true, true_and, and_false, false_and, and_self, Nat.reduceEqDiff, fz_sA, rF_sA, rA_sA, rR_sA, rF_sT, rR_sT, sT_sF, fz_sT, rA_sT26 hp_2, rA_sT27 hp_2, rA_sT34 hp_2, rA_sT35 hp_2, rA_sT36 hp_2, rA_sT37 hp_2, rA_sT40 hp_2, TPRp_sT hp_2, WNp_sT hp_2, VMp_sT hp_2, KYp_sT hp_2, PPp_sT hp_2, WFp_sT hp_2, CCp_sT hp_2, rNMp_sT1, PNp_sT1, rk_n0 hp_2, Ks120]); (all_goals (repeat' (first | with_reducible intro _ | with_reducible apply And.intro | with_reducible refine Exists.intro gs123 ?_ | with_reducible refine Im.and ?_ ?_))); all_goals (first | assumption | trivial | ((with_reducible refine Im.i fun hf_ => ?_); first | exact (A123 hf_) | exact (Gu86 hf_) | exact (Ku85 hf_) | exact (Ou83 hf_).cst | exact (Lu84 hf_) | exact (O105u87 hf_).cst | exact (L123u88 hf_) | exact ok1.i | (exact LI.z (fun h => absurd h (by decide))) | (exact absurd hf_ (by omega)) | omega) | (unfold NBP; (try simp only [reduceIte, and_true, true_and, and_false, false_and, and_self, Nat.reduceEqDiff, fz_sA, rF_sA, rA_sA, rR_sA, rF_sT, rR_sT, sT_sF, fz_sT, rA_sT26 hp_2, rA_sT27 hp_2, rA_sT34 hp_2, rA_sT35 hp_2, rA_sT36 hp_2, rA_sT37 hp_2, rA_sT40 hp_2, TPRp_sT hp_2, WNp_sT hp_2, VMp_sT hp_2, KYp_sT hp_2, PPp_sT hp_2, WFp_sT hp_2, CCp_sT hp_2, rNMp_sT1, PNp_sT1, rk_n0 hp_2, Ks120]); omega) | (unfold NBQ; (try simp only [reduceIte, and_true, true_and, and_false, false_and, and_self, Nat.reduceEqDiff, fz_sA, rF_sA, rA_sA, rR_sA, rF_sT, rR_sT, sT_sF, fz_sT, rA_sT26 hp_2, rA_sT27 hp_2, rA_sT34 hp_2, rA_sT35 hp_2, rA_sT36 hp_2, rA_sT37 hp_2, rA_sT40 hp_2, TPRp_sT hp_2, WNp_sT hp_2, VMp_sT hp_2, KYp_sT hp_2, PPp_sT hp_2, WFp_sT hp_2, CCp_sT hp_2, rNMp_sT1, PNp_sT1, rk_n0 hp_2, Ks120]); omega) | omega | (have zz_ := fz_z (by assumption); omega) | (split <;> omega) | done)), ?_⟩
        intro s127 Ws127 e127_0 e127_1 e127_2 e127_3 e127_4 e127_5 e127_6 e127_7 e127_8 e127_9 e127_10 e127_11 e127_12 e127_13 e127_14 e127_15 e127_16 e127_17 e127_18 e127_19 e127_20 e127_21 R127 q127
        have q127 := dig_need q127 (by (try simp only [reduceIte, and_true, true_and, and_false, false_and, and_self, Nat.reduceEqDiff, fz_sA, rF_sA, rA_sA, rR_sA, rF_sT, rR_sT, sT_sF, fz_sT, rA_sT26 hp_2, rA_sT27 hp_2, rA_sT34 hp_2, rA_sT35 hp_2, rA_sT36 hp_2, rA_sT37 hp_2, rA_sT40 hp_2, TPRp_sT hp_2, WNp_sT hp_2, VMp_sT hp_2, KYp_sT hp_2, PPp_sT hp_2, WFp_sT hp_2, CCp_sT hp_2, rNMp_sT1, PNp_sT1, rk_n0 hp_2, Ks120]); omega)
        obtain ⟨q127_1, q127_2, q127_3, q127_4⟩ := q127
        (try simp only [reduceIte, and_true, true_and, and_false, false_and, and_self, Nat.reduceEqDiff, fz_sA, rF_sA, rA_sA, rR_sA, rF_sT, rR_sT, sT_sF, fz_sT, rA_sT26 hp_2, rA_sT27 hp_2, rA_sT34 hp_2, rA_sT35 hp_2, rA_sT36 hp_2, rA_sT37 hp_2, rA_sT40 hp_2, TPRp_sT hp_2, WNp_sT hp_2, VMp_sT hp_2, KYp_sT hp_2, PPp_sT hp_2, WFp_sT hp_2, CCp_sT hp_2, rNMp_sT1, PNp_sT1, rk_n0 hp_2, Ks120, NBP, NBQ] at q127_1 q127_2 q127_3 q127_4 e127_0 e127_1 e127_2 e127_3 e127_4 e127_5 e127_6 e127_7 e127_8 e127_9 e127_10 e127_11 e127_12 e127_13 e127_14 e127_15 e127_16 e127_17 e127_18 e127_19 e127_20 e127_21 R127)
        have Ks127 : rR s127 7 = rR σ 7 := by first | assumption | ((try simp only [rR_sF, rR_sA, rR_sT, rR_sL] at e127_0 e127_1 e127_2 e127_3 e127_4 e127_5 e127_6 e127_7 e127_8 e127_9 e127_10 e127_11 e127_12 e127_13 e127_14 e127_15 e127_16 e127_17 e127_18 e127_19 e127_20 e127_21 R127); omega)
        have zr127 := fz_rng s127
        have zc127 : fz s127 = 0 → fz s120 = 0 := fun hf => by omega
        have A127 : Im (fz s127 = 0) (RG σ s127 (rR σ 7) 0) := fun hf => RG.trk hp_2 (A123 (zc127 hf)) R127 (Or.inr (Or.inl rfl))
        have Ou89 : Im (fz s127 = 0) _ := fun hf => OP.gk0 (Ou83 (zc127 hf)) (GK.up (g := gs123) (N := rF (sT s120 (rR σ 7) 1 v105 v120) (rR σ 7) 7) (N' := rF s127 (rR σ 7) 7) (c := 0) (by first | assumption | omega | (simp only [rF_sT, rF_sA]; omega)))
        have Lu90 : Im (fz s127 = 0) _ := fun hf => LI.gk0 hp_2 (Lu84 (zc127 hf)) (Ou83 (zc127 hf)) R127 (GK.up (g := gs123) (N := rF (sT s120 (rR σ 7) 1 v105 v120) (rR σ 7) 7) (N' := rF s127 (rR σ 7) 7) (c := 0) (by first | assumption | omega | (simp only [rF_sT, rF_sA]; omega)))
        have O105u91 : Im (fz s127 = 0) _ := fun hf => OP.gk0 (O105u87 (zc127 hf)) (GK.up (g := gs123) (N := rF (sT s120 (rR σ 7) 1 v105 v120) (rR σ 7) 7) (N' := rF s127 (rR σ 7) 7) (c := 0) (by first | assumption | omega | (simp only [rF_sT, rF_sA]; omega)))
        have L123u92 : Im (fz s127 = 0) _ := fun hf => LI.gk0 hp_2 (L123u88 (zc127 hf)) (O105u87 (zc127 hf)) R127 (GK.up (g := gs123) (N := rF (sT s120 (rR σ 7) 1 v105 v120) (rR σ 7) 7) (N' := rF s127 (rR σ 7) 7) (c := 0) (by first | assumption | omega | (simp only [rF_sT, rF_sA]; omega)))
        have Ku93 : Im (fz s127 = 0) (GK g gs123 (rF σ (rR σ 7) 7) (rF s127 (rR σ 7) 7) 0) := fun hf => GK.trans (Ku85 (zc127 hf)) (GK.up (N := rF (sT s120 (rR σ 7) 1 v105 v120) (rR σ 7) 7) (N' := rF s127 (rR σ 7) 7) (c := 0) (by first | assumption | omega | (simp only [rF_sT, rF_sA]; omega))) (Or.inr (Or.inl rfl))
        have Gu94 : Im (fz s127 = 0) (GS s127 (rR σ 7) gs123) := fun hf => GS.mv hp_2 (Gu86 (zc127 hf)) R127 (by first | assumption | omega | (simp only [rF_sT, rF_sA]; omega)) (by first | (exact Int.le_of_eq (Eq.symm (by assumption))) | omega | (simp only [rF_sT, rF_sA]; omega))
        have rNMp_127 := e127_0 q120_2; clear e127_0
        have TPRp_127 := e127_1 TPRp_120; clear e127_1
        have WNp_127 := e127_2 q120_3; clear e127_2
        have PNp_127 := e127_3 q120_4; clear e127_3
        have CCp_127 := e127_4 CCp_120; clear e127_4
        refine ⟨fun c148 => ?_, fun c148 => ?_⟩
        · refine ⟨(by (try simp only [Ks127]); (all_goals (repeat' (first | with_reducible intro _ | with_reducible apply And.intro | with_reducible refine Exists.intro gs123 ?_ | with_reducible refine Im.and ?_ ?_))); all_goals (first | assumption | trivial | ((with_reducible refine Im.i fun hf_ => ?_); first | exact (A127 hf_) | exact (Gu94 hf_) | exact (Ku93 hf_) | exact (Ou89 hf_).cst | exact (Lu90 hf_) | exact (O105u91 hf_).cst | exact (L123u92 hf_) | exact ok1.i | (exact LI.z (fun h => absurd h (by decide))) | (exact absurd hf_ (by omega)) | omega) | (unfold NBP; (try simp only [Ks127]); omega) | (unfold NBQ; (try simp only [Ks127]); omega) | omega | (have zz_ := fz_z (by assumption); omega) | (split <;> omega) | done)), ?_⟩
          obtain ⟨gu95, Xu96⟩ := EC_43 (P := fz s127 = 0) (rF s127 0 29) Gu94 O105u91 (fun hf => by omega)
          have Ou97 : Im (fz s127 = 0) _ := fun hf => OP.kc (Ou89 hf) (Xu96 hf).2.2 (by omega)
          have Lu98 : Im (fz s127 = 0) _ := fun hf => LI.kc (Lu90 hf) (Xu96 hf).2.2
          have O105u99 : Im (fz s127 = 0) _ := fun hf => (Xu96 hf).2.1
          have Ku100 : Im (fz s127 = 0) (GK g gu95 (rF σ (rR σ 7) 7) (rF s127 (rR σ 7) 7) 0) := fun hf => GK.kc (Ku93 hf) (Xu96 hf).2.2 (by omega)
          have Gu101 : Im (fz s127 = 0) _ := fun hf => (Xu96 hf).1
          have A175 : Im (fz s127 = 0) (RG σ (sT s127 (rR σ 7) 5 y45_2 v105) (rR σ 7) 0) := fun hf => RG.tst (f := 5) (i := y45_2) (x := v105) hp_2 (A127 hf) (by decide) (by omega)
          obtain ⟨gs175, Xs175⟩ := EA_2_41 (P := fz s127 = 0) hp_2 Gu101 Ou97 Lu98 O105u99 (fun _ h => h) (fun hf => by omega)
          have Ku102 : Im (fz s127 = 0) (GK g gs175 (rF σ (rR σ 7) 7) (rF s127 (rR σ 7) 7) 0) := fun hf => GK.ks (Ku100 hf) (Xs175 hf).2.2.2.1 (by omega) (by omega)
          have Gu103 : Im (fz s127 = 0) _ := fun hf => (Xs175 hf).1
          have Ou104 : Im (fz s127 = 0) _ := fun hf => (Xs175 hf).2.1
          have Lu105 : Im (fz s127 = 0) _ := fun hf => (Xs175 hf).2.2.1
          refine ⟨(by (try simp only [pre_X14_blanks, reduceIte, and_true, true_and, and_false, false_and, and_self, Nat.reduceEqDiff, fz_sA, rF_sA, rA_sA, rR_sA, rF_sT, rR_sT, sT_sF, fz_sT, rA_sT26 hp_2, rA_sT27 hp_2, rA_sT34 hp_2, rA_sT35 hp_2, rA_sT36 hp_2, rA_sT37 hp_2, rA_sT40 hp_2, TPRp_sT hp_2, WNp_sT hp_2, VMp_sT hp_2, KYp_sT hp_2, PPp_sT hp_2, WFp_sT hp_2, CCp_sT hp_2, rNMp_sT5, PNp_sT5, rk_n0 hp_2, Ks127]); (all_goals (repeat' (first | with_reducible intro _ | with_reducible apply And.intro | with_reducible refine Exists.intro gs175 ?_ | with_reducible refine Im.and ?_ ?_))); all_goals (first | assumption | trivial | ((with_reducible refine Im.i fun hf_ => ?_); first | exact (A175 hf_) | exact (Gu103 hf_) | exact (Ku102 hf_) | exact (Ou104 hf_).cst | exact (Lu105 hf_) | exact ok1.i | (exact LI.z (fun h => absurd h (by decide))) | (exact absurd hf_ (by omega)) | omega) | (unfold NBP; (try simp only [reduceIte, and_true, true_and, and_false, false_and, and_self, Nat.reduceEqDiff, fz_sA, rF_sA, rA_sA, rR_sA, rF_sT, rR_sT, sT_sF, fz_sT, rA_sT26 hp_2, rA_sT27 hp_2, rA_sT34 hp_2, rA_sT35 hp_2, rA_sT36 hp_2, rA_sT37 hp_2, rA_sT40 hp_2, TPRp_sT hp_2, WNp_sT hp_2, VMp_sT hp_2, KYp_sT hp_2, PPp_sT hp_2, WFp_sT hp_2, CCp_sT hp_2, rNMp_sT5, PNp_sT5, rk_n0 hp_2, Ks127]); omega) | (unfold NBQ; (try simp only [reduceIte, and_true, true_and, and_false, false_and, and_self, Nat.reduceEqDiff, fz_sA, rF_sA, rA_sA, rR_sA, rF_sT, rR_sT, sT_sF, fz_sT, rA_sT26 hp_2, rA_sT27 hp_2, rA_sT34 hp_2, rA_sT35 hp_2, rA_sT36 hp_2, rA_sT37 hp_2, rA_sT40 hp_2, TPRp_sT hp_2, WNp_sT hp_2, VMp_sT hp_2, KYp_sT hp_2, PPp_sT hp_2, WFp_sT hp_2, CCp_sT hp_2, rNMp_sT5, PNp_sT5, rk_n0 hp_2, Ks127]); omega) | omega | (have zz_ := fz_z (by assumption); omega) | (split <;> omega) | done)), ?_⟩
          intro s180 Ws180 e180_0 e180_1 e180_2 e180_3 e180_4 e180_5 e180_6 e180_7 e180_8 e180_9 e180_10 e180_11 e180_12 e180_13 e180_14 e180_15 e180_16 e180_17 e180_18 e180_19 e180_20 e180_21 e180_22 e180_23 R180 q180
          have q180 := dig_blanks q180 (by (try simp only [reduceIte, and_true, true_and, and_false, false_and, and_self, Nat.reduceEqDiff, fz_sA, rF_sA, rA_sA, rR_sA, rF_sT, rR_sT, sT_sF, fz_sT, rA_sT26 hp_2, rA_sT27 hp_2, rA_sT34 hp_2, rA_sT35 hp_2, rA_sT36 hp_2, rA_sT37 hp_2, rA_sT40 hp_2, TPRp_sT hp_2, WNp_sT hp_2, VMp_sT hp_2, KYp_sT hp_2, PPp_sT hp_2, WFp_sT hp_2, CCp_sT hp_2, rNMp_sT5, PNp_sT5, rk_n0 hp_2, Ks127]); omega)
          obtain ⟨q180_1, q180_2⟩ := q180
          (try simp only [reduceIte, and_true, true_and, and_false, false_and, and_self, Nat.reduceEqDiff, fz_sA, rF_sA, rA_sA, rR_sA, rF_sT, rR_sT, sT_sF, fz_sT, rA_sT26 hp_2, rA_sT27 hp_2, rA_sT34 hp_2, rA_sT35 hp_2, rA_sT36 hp_2, rA_sT37 hp_2, rA_sT40 hp_2, TPRp_sT hp_2, WNp_sT hp_2, VMp_sT hp_2, KYp_sT hp_2, PPp_sT hp_2, WFp_sT hp_2, CCp_sT hp_2, rNMp_sT5, PNp_sT5, rk_n0 hp_2, Ks127, NBP, NBQ] at q180_1 q180_2 e180_0 e180_1 e180_2 e180_3 e180_4 e180_5 e180_6 e180_7 e180_8 e180_9 e180_10 e180_11 e180_12 e180_13 e180_14 e180_15 e180_16 e180_17 e180_18 e180_19 e180_20 e180_21 e180_22 e180_23 R180)
          have Ks180 : rR s180 7 = rR σ 7 := by first | assumption | ((try simp only [rR_sF, rR_sA, rR_sT, rR_sL] at e180_0 e180_1 e180_2 e180_3 e180_4 e180_5 e180_6 e180_7 e180_8 e180_9 e180_10 e180_11 e180_12 e180_13 e180_14 e180_15 e180_16 e180_17 e180_18 e180_19 e180_20 e180_21 e180_22 e180_23 R180); omega)
          have zr180 := fz_rng s180
          have zc180 : fz s180 = 0 → fz s127 = 0 := fun hf => by omega
          have A180 : Im (fz s180 = 0) (RG σ s180 (rR σ 7) 0) := fun hf => RG.trk hp_2 (A175 (zc180 hf)) R180 (Or.inr (Or.inl rfl))
          have Ou106 : Im (fz s180 = 0) _ := fun hf => OP.gk0 (Ou104 (zc180 hf)) (GK.up (g := gs175) (N := rF (sT s127 (rR σ 7) 5 y45_2 v105) (rR σ 7) 7) (N' := rF s180 (rR σ 7) 7) (c := 0) (by first | assumption | omega | (simp only [rF_sT, rF_sA]; omega)))
          have Lu107 : Im (fz s180 = 0) _ := fun hf => LI.gk0 hp_2 (Lu105 (zc180 hf)) (Ou104 (zc180 hf)) R180 (GK.up (g := gs175) (N := rF (sT s127 (rR σ 7) 5 y45_2 v105) (rR σ 7) 7) (N' := rF s180 (rR σ 7) 7) (c := 0) (by first | assumption | omega | (simp only [rF_sT, rF_sA]; omega)))
          have Ku108 : Im (fz s180 = 0) (GK g gs175 (rF σ (rR σ 7) 7) (rF s180 (rR σ 7) 7) 0) := fun hf => GK.trans (Ku102 (zc180 hf)) (GK.up (N := rF (sT s127 (rR σ 7) 5 y45_2 v105) (rR σ 7) 7) (N' := rF s180 (rR σ 7) 7) (c := 0) (by first | assumption | omega | (simp only [rF_sT, rF_sA]; omega))) (Or.inr (Or.inl rfl))
          have Gu109 : Im (fz s180 = 0) (GS s180 (rR σ 7) gs175) := fun hf => GS.mv hp_2 (Gu103 (zc180 hf)) R180 (by first | assumption | omega | (simp only [rF_sT, rF_sA]; omega)) (by first | (exact Int.le_of_eq (Eq.symm (by assumption))) | omega | (simp only [rF_sT, rF_sA]; omega))
          have rNMp_180 := e180_0 rNMp_127; clear e180_0
          have TPRp_180 := e180_1 TPRp_127; clear e180_1
          have WNp_180 := e180_2 WNp_127; clear e180_2
          have PNp_180 := e180_3 PNp_127; clear e180_3
          have CCp_180 := e180_4 CCp_127; clear e180_4
          exact (by (try simp only [inv_X14_readMember_45, mu_X14_readMember_45, mu_X14_readMember_45, Ks180]); (all_goals (repeat' (first | with_reducible intro _ | with_reducible apply And.intro | with_reducible refine Exists.intro gs175 ?_ | with_reducible refine Im.and ?_ ?_))); all_goals (first | assumption | trivial | ((with_reducible refine Im.i fun hf_ => ?_); first | exact (A180 hf_) | exact (Gu109 hf_) | exact (Ku108 hf_) | exact (Ou106 hf_).cst | exact (Lu107 hf_) | exact ok1.i | (exact LI.z (fun h => absurd h (by decide))) | (exact absurd hf_ (by omega)) | omega) | (unfold NBP; (try simp only [Ks180]); omega) | (unfold NBQ; (try simp only [Ks180]); omega) | omega | (have zz_ := fz_z (by assumption); omega) | (split <;> omega) | done))
        · refine ⟨(by (try simp only [Ks127]); (all_goals (repeat' (first | with_reducible intro _ | with_reducible apply And.intro | with_reducible refine Exists.intro gs123 ?_ | with_reducible refine Im.and ?_ ?_))); all_goals (first | assumption | trivial | ((with_reducible refine Im.i fun hf_ => ?_); first | exact (A127 hf_) | exact (Gu94 hf_) | exact (Ku93 hf_) | exact (Ou89 hf_).cst | exact (Lu90 hf_) | exact (O105u91 hf_).cst | exact (L123u92 hf_) | exact ok1.i | (exact LI.z (fun h => absurd h (by decide))) | (exact absurd hf_ (by omega)) | omega) | (unfold NBP; (try simp only [Ks127]); omega) | (unfold NBQ; (try simp only [Ks127]); omega) | omega | (have zz_ := fz_z (by assumption); omega) | (split <;> omega) | done)), ?_⟩
          obtain ⟨gu110, Xu111⟩ := EC_43 (P := fz s127 = 0) (rF s127 0 29) Gu94 O105u91 (fun hf => by omega)
          have Ou112 : Im (fz s127 = 0) _ := fun hf => OP.kc (Ou89 hf) (Xu111 hf).2.2 (by omega)
          have Lu113 : Im (fz s127 = 0) _ := fun hf => LI.kc (Lu90 hf) (Xu111 hf).2.2
          have O105u114 : Im (fz s127 = 0) _ := fun hf => (Xu111 hf).2.1
          have Ku115 : Im (fz s127 = 0) (GK g gu110 (rF σ (rR σ 7) 7) (rF s127 (rR σ 7) 7) 0) := fun hf => GK.kc (Ku93 hf) (Xu111 hf).2.2 (by omega)
          have Gu116 : Im (fz s127 = 0) _ := fun hf => (Xu111 hf).1
          have A161 : Im (fz s127 = 0) (RG σ (sT s127 (rR σ 7) 2 y45_1 v105) (rR σ 7) 0) := fun hf => RG.tst (f := 2) (i := y45_1) (x := v105) hp_2 (A127 hf) (by decide) (by omega)
          obtain ⟨gs161, Xs161⟩ := EH_2_41 (P := fz s127 = 0) hp_2 Gu116 Ou112 O105u114 (fun _ h => h) (fun hf => by omega)
          have Ku117 : Im (fz s127 = 0) (GK g gs161 (rF σ (rR σ 7) 7) (rF s127 (rR σ 7) 7) 0) := fun hf => GK.ks (Ku115 hf) (Xs161 hf).2.2.2.1 (by omega) (by omega)
          have Gu118 : Im (fz s127 = 0) _ := fun hf => (Xs161 hf).1
          have Ou119 : Im (fz s127 = 0) _ := fun hf => (Xs161 hf).2.1
          have Lu120 : Im (fz s127 = 0) _ := fun hf => (Xs161 hf).2.2.1
          refine ⟨(by (try simp only [pre_X14_blanks, reduceIte, and_true, true_and, and_false, false_and, and_self, Nat.reduceEqDiff, fz_sA, rF_sA, rA_sA, rR_sA, rF_sT, rR_sT, sT_sF, fz_sT, rA_sT26 hp_2, rA_sT27 hp_2, rA_sT34 hp_2, rA_sT35 hp_2, rA_sT36 hp_2, rA_sT37 hp_2, rA_sT40 hp_2, TPRp_sT hp_2, WNp_sT hp_2, VMp_sT hp_2, KYp_sT hp_2, PPp_sT hp_2, WFp_sT hp_2, CCp_sT hp_2, rNMp_sT2, PNp_sT2, rk_n0 hp_2, Ks127]); (all_goals (repeat' (first | with_reducible intro _ | with_reducible apply And.intro | with_reducible refine Exists.intro gs161 ?_ | with_reducible refine Im.and ?_ ?_))); all_goals (first | assumption | trivial | ((with_reducible refine Im.i fun hf_ => ?_); first | exact (A161 hf_) | exact (Gu118 hf_) | exact (Ku117 hf_) | exact (Ou119 hf_).cst | exact (Lu120 hf_) | exact ok1.i | (exact LI.z (fun h => absurd h (by decide))) | (exact absurd hf_ (by omega)) | omega) | (unfold NBP; (try simp only [reduceIte, and_true, true_and, and_false, false_and, and_self, Nat.reduceEqDiff, fz_sA, rF_sA, rA_sA, rR_sA, rF_sT, rR_sT, sT_sF, fz_sT, rA_sT26 hp_2, rA_sT27 hp_2, rA_sT34 hp_2, rA_sT35 hp_2, rA_sT36 hp_2, rA_sT37 hp_2, rA_sT40 hp_2, TPRp_sT hp_2, WNp_sT hp_2, VMp_sT hp_2, KYp_sT hp_2, PPp_sT hp_2, WFp_sT hp_2, CCp_sT hp_2, rNMp_sT2, PNp_sT2, rk_n0 hp_2, Ks127]); omega) | (unfold NBQ; (try simp only [reduceIte, and_true, true_and, and_false, false_and, and_self, Nat.reduceEqDiff, fz_sA, rF_sA, rA_sA, rR_sA, rF_sT, rR_sT, sT_sF, fz_sT, rA_sT26 hp_2, rA_sT27 hp_2, rA_sT34 hp_2, rA_sT35 hp_2, rA_sT36 hp_2, rA_sT37 hp_2, rA_sT40 hp_2, TPRp_sT hp_2, WNp_sT hp_2, VMp_sT hp_2, KYp_sT hp_2, PPp_sT hp_2, WFp_sT hp_2, CCp_sT hp_2, rNMp_sT2, PNp_sT2, rk_n0 hp_2, Ks127]); omega) | omega | (have zz_ := fz_z (by assumption); omega) | (split <;> omega) | done)), ?_⟩
          intro s180 Ws180 e180_0 e180_1 e180_2 e180_3 e180_4 e180_5 e180_6 e180_7 e180_8 e180_9 e180_10 e180_11 e180_12 e180_13 e180_14 e180_15 e180_16 e180_17 e180_18 e180_19 e180_20 e180_21 e180_22 e180_23 R180 q180
          have q180 := dig_blanks q180 (by (try simp only [reduceIte, and_true, true_and, and_false, false_and, and_self, Nat.reduceEqDiff, fz_sA, rF_sA, rA_sA, rR_sA, rF_sT, rR_sT, sT_sF, fz_sT, rA_sT26 hp_2, rA_sT27 hp_2, rA_sT34 hp_2, rA_sT35 hp_2, rA_sT36 hp_2, rA_sT37 hp_2, rA_sT40 hp_2, TPRp_sT hp_2, WNp_sT hp_2, VMp_sT hp_2, KYp_sT hp_2, PPp_sT hp_2, WFp_sT hp_2, CCp_sT hp_2, rNMp_sT2, PNp_sT2, rk_n0 hp_2, Ks127]); omega)
          obtain ⟨q180_1, q180_2⟩ := q180
          (try simp only [reduceIte, and_true, true_and, and_false, false_and, and_self, Nat.reduceEqDiff, fz_sA, rF_sA, rA_sA, rR_sA, rF_sT, rR_sT, sT_sF, fz_sT, rA_sT26 hp_2, rA_sT27 hp_2, rA_sT34 hp_2, rA_sT35 hp_2, rA_sT36 hp_2, rA_sT37 hp_2, rA_sT40 hp_2, TPRp_sT hp_2, WNp_sT hp_2, VMp_sT hp_2, KYp_sT hp_2, PPp_sT hp_2, WFp_sT hp_2, CCp_sT hp_2, rNMp_sT2, PNp_sT2, rk_n0 hp_2, Ks127, NBP, NBQ] at q180_1 q180_2 e180_0 e180_1 e180_2 e180_3 e180_4 e180_5 e180_6 e180_7 e180_8 e180_9 e180_10 e180_11 e180_12 e180_13 e180_14 e180_15 e180_16 e180_17 e180_18 e180_19 e180_20 e180_21 e180_22 e180_23 R180)
          have Ks180 : rR s180 7 = rR σ 7 := by first | assumption | ((try simp only [rR_sF, rR_sA, rR_sT, rR_sL] at e180_0 e180_1 e180_2 e180_3 e180_4 e180_5 e180_6 e180_7 e180_8 e180_9 e180_10 e180_11 e180_12 e180_13 e180_14 e180_15 e180_16 e180_17 e180_18 e180_19 e180_20 e180_21 e180_22 e180_23 R180); omega)
          have zr180 := fz_rng s180
          have zc180 : fz s180 = 0 → fz s127 = 0 := fun hf => by omega
          have A180 : Im (fz s180 = 0) (RG σ s180 (rR σ 7) 0) := fun hf => RG.trk hp_2 (A161 (zc180 hf)) R180 (Or.inr (Or.inl rfl))
          have Ou121 : Im (fz s180 = 0) _ := fun hf => OP.gk0 (Ou119 (zc180 hf)) (GK.up (g := gs161) (N := rF (sT s127 (rR σ 7) 2 y45_1 v105) (rR σ 7) 7) (N' := rF s180 (rR σ 7) 7) (c := 0) (by first | assumption | omega | (simp only [rF_sT, rF_sA]; omega)))
          have Lu122 : Im (fz s180 = 0) _ := fun hf => LI.gk0 hp_2 (Lu120 (zc180 hf)) (Ou119 (zc180 hf)) R180 (GK.up (g := gs161) (N := rF (sT s127 (rR σ 7) 2 y45_1 v105) (rR σ 7) 7) (N' := rF s180 (rR σ 7) 7) (c := 0) (by first | assumption | omega | (simp only [rF_sT, rF_sA]; omega)))
          have Ku123 : Im (fz s180 = 0) (GK g gs161 (rF σ (rR σ 7) 7) (rF s180 (rR σ 7) 7) 0) := fun hf => GK.trans (Ku117 (zc180 hf)) (GK.up (N := rF (sT s127 (rR σ 7) 2 y45_1 v105) (rR σ 7) 7) (N' := rF s180 (rR σ 7) 7) (c := 0) (by first | assumption | omega | (simp only [rF_sT, rF_sA]; omega))) (Or.inr (Or.inl rfl))
          have Gu124 : Im (fz s180 = 0) (GS s180 (rR σ 7) gs161) := fun hf => GS.mv hp_2 (Gu118 (zc180 hf)) R180 (by first | assumption | omega | (simp only [rF_sT, rF_sA]; omega)) (by first | (exact Int.le_of_eq (Eq.symm (by assumption))) | omega | (simp only [rF_sT, rF_sA]; omega))
          have rNMp_180 := e180_0 rNMp_127; clear e180_0
          have TPRp_180 := e180_1 TPRp_127; clear e180_1
          have WNp_180 := e180_2 WNp_127; clear e180_2
          have PNp_180 := e180_3 PNp_127; clear e180_3
          have CCp_180 := e180_4 CCp_127; clear e180_4
          exact (by (try simp only [inv_X14_readMember_45, mu_X14_readMember_45, mu_X14_readMember_45, Ks180]); (all_goals (repeat' (first | with_reducible intro _ | with_reducible apply And.intro | with_reducible refine Exists.intro gs161 ?_ | with_reducible refine Im.and ?_ ?_))); all_goals (first | assumption | trivial | ((with_reducible refine Im.i fun hf_ => ?_); first | exact (A180 hf_) | exact (Gu124 hf_) | exact (Ku123 hf_) | exact (Ou121 hf_).cst | exact (Lu122 hf_) | exact ok1.i | (exact LI.z (fun h => absurd h (by decide))) | (exact absurd hf_ (by omega)) | omega) | (unfold NBP; (try simp only [Ks180]); omega) | (unfold NBQ; (try simp only [Ks180]); omega) | omega | (have zz_ := fz_z (by assumption); omega) | (split <;> omega) | done))
set_option maxHeartbeats 20000000 in
theorem vX14_readMember_45m (n : Nat) (σ : rS) (gg : Nat) (g : Nat → Int → Int) (hwf : rWF σ) (hp : pre_X14_readMember σ gg g) (hr : rk_X14_readMember σ gg g ≤ n + 1) : VC_X14_readMember_45m n σ gg g := by
  unfold pre_X14_readMember at hp
  obtain ⟨hp_1, hp_2, hp_3, hp_4, hp_5, hp_6, hp_7, hp_8⟩ := hp
  subst hp_1
  unfold rk_X14_readMember at hr
  have hN := hp_4
  unfold NBP at hN
  have hC := hp_3
  unfold CCp at hC
  obtain ⟨hC1, hC⟩ := hC
  have zr0 := fz_rng σ
  have hr2 : fz σ = 0 → 16 * (21 - rF σ 0 31).toNat + 6 ≤ n + 1 := fun h => by rw [if_pos h] at hr; exact hr
  have hr3 : 6 ≤ n + 1 := by have := hr; split at this <;> omega
  clear hr
  unfold VC_X14_readMember_45m
  (try simp only [inv_X14_readMember_45, mu_X14_readMember_45]); (all_goals (repeat' (first | with_reducible intro _ | with_reducible apply And.intro))); all_goals (first | assumption | omega | grind (splits := 20))
