set_option maxHeartbeats 4000000 in
theorem vX14_readMember (n : Nat) (σ : rS) (gg : Nat) (hwf : rWF σ) (hp : pre_X14_readMember σ gg) (hr : rk_X14_readMember σ gg ≤ n + 1) : VC_X14_readMember n σ gg (post_X14_readMember σ gg) := by
  unfold pre_X14_readMember at hp
  obtain ⟨hp_1, hp_2, hp_3, hp_4, hp_5, hp_6, hp_7⟩ := hp
  subst hp_1
  unfold rk_X14_readMember at hr
  have hN := hp_4
  unfold NBP at hN
  have hC := hp_3
  unfold CCp at hC
  obtain ⟨hC1, hC⟩ := hC
  have zr0 := fz_rng σ
  have hr2 : fz σ = 0 → 16 * (21 - rF σ 0 31).toNat + 6 ≤ n + 1 := fun h => by rw [if_pos h] at hr; exact hr
  have hr3 : 6 ≤ n + 1 := by have := hr; split at this <;> omega
  clear hr
  unfold VC_X14_readMember
  refine ⟨(by (all_goals (repeat' (first | with_reducible intro _ | with_reducible apply And.intro))); all_goals (first | assumption | trivial | (unfold NBP; omega) | (unfold NBQ; omega) | omega | (exact fun hf_ => absurd hf_ (by omega)) | (split <;> omega) | done)), ?_⟩
  refine ⟨(by (try simp only [pre_X14_blanks]); (all_goals (repeat' (first | with_reducible intro _ | with_reducible apply And.intro))); all_goals (first | assumption | trivial | (unfold NBP; omega) | (unfold NBQ; omega) | omega | (exact fun hf_ => ((fun _ => RG.rf) (by omega))) | (exact fun hf_ => absurd hf_ (by omega)) | (split <;> omega) | done)), ?_⟩
  intro s1 Ws1 e1_0 e1_1 e1_2 e1_3 e1_4 e1_5 e1_6 e1_7 e1_8 e1_9 e1_10 e1_11 e1_12 e1_13 e1_14 e1_15 e1_16 e1_17 e1_18 e1_19 e1_20 e1_21 e1_22 e1_23 R1 q1
  have q1 := dig_blanks q1 (by omega)
  obtain ⟨q1_1, q1_2⟩ := q1
  (try simp only [NBP, NBQ] at q1_1 q1_2 e1_0 e1_1 e1_2 e1_3 e1_4 e1_5 e1_6 e1_7 e1_8 e1_9 e1_10 e1_11 e1_12 e1_13 e1_14 e1_15 e1_16 e1_17 e1_18 e1_19 e1_20 e1_21 e1_22 e1_23 R1)
  have Ks1 : rR s1 7 = rR σ 7 := by (try simp only [rR_sF, rR_sA, rR_sT, rR_sL] at e1_0 e1_1 e1_2 e1_3 e1_4 e1_5 e1_6 e1_7 e1_8 e1_9 e1_10 e1_11 e1_12 e1_13 e1_14 e1_15 e1_16 e1_17 e1_18 e1_19 e1_20 e1_21 e1_22 e1_23 R1); omega
  have zr1 := fz_rng s1
  have A1 : Im (fz s1 = 0) (RG σ s1 (rR σ 7) 0) := fun hf => RG.trk hp_2 ((fun _ => RG.rf) (by omega)) R1 (by omega)
  have rNMp_1 := e1_0 hp_5; clear e1_0
  have TPRp_1 := e1_1 hC1; clear e1_1
  have WNp_1 := e1_2 hp_6; clear e1_2
  have PNp_1 := e1_3 hp_7; clear e1_3
  have CCp_1 := e1_4 hp_3; clear e1_4
  intro hr_; unfold rng at hr_
  refine ⟨fun c8 => ?_, fun c8 => ?_⟩
  · have z8 := fz_z c8
    refine ⟨(by (try simp only [pre_X14_place, Ks1]); (all_goals (repeat' (first | with_reducible intro _ | with_reducible apply And.intro))); all_goals (first | assumption | trivial | (unfold NBP; (try simp only [Ks1]); omega) | (unfold NBQ; (try simp only [Ks1]); omega) | omega | (exact fun hf_ => (A1 (by omega))) | (exact fun hf_ => absurd hf_ (by omega)) | (split <;> omega) | done)), ?_⟩
    intro v19 hv19 q19
    unfold rng at hv19
    unfold post_X14_place at q19
    obtain ⟨q19_1, q19_2⟩ := q19
    (try simp only [Ks1, NBP, NBQ] at q19_1 q19_2)
    refine ⟨(by (try simp only [pre_X14_node_t, Ks1]); (all_goals (repeat' (first | with_reducible intro _ | with_reducible apply And.intro))); all_goals (first | assumption | trivial | (unfold NBP; (try simp only [Ks1]); omega) | (unfold NBQ; (try simp only [Ks1]); omega) | omega | (exact fun hf_ => (A1 (by omega))) | (exact fun hf_ => absurd hf_ (by omega)) | (split <;> omega) | done)), ?_⟩
    intro v22 s22 hv22 Ws22 e22_0 e22_1 e22_2 e22_3 e22_4 e22_5 e22_6 e22_7 e22_8 e22_9 e22_10 e22_11 e22_12 e22_13 e22_14 e22_15 e22_16 e22_17 e22_18 e22_19 e22_20 e22_21 e22_22 e22_23 q22
    unfold rng at hv22
    unfold post_X14_node_t at q22
    obtain ⟨q22_1, q22_2, q22_3, q22_4, q22_5, q22_6, q22_7, q22_8, q22_9⟩ := q22
    (try simp only [Ks1, NBP, NBQ] at q22_1 q22_2 q22_3 q22_4 q22_5 q22_6 q22_7 q22_8 q22_9 e22_0 e22_1 e22_2 e22_3 e22_4 e22_5 e22_6 e22_7 e22_8 e22_9 e22_10 e22_11 e22_12 e22_13 e22_14 e22_15 e22_16 e22_17 e22_18 e22_19 e22_20 e22_21 e22_22 e22_23)
    have Ks22 : rR s22 7 = rR σ 7 := by (try simp only [rR_sF, rR_sA, rR_sT, rR_sL] at e22_0 e22_1 e22_2 e22_3 e22_4 e22_5 e22_6 e22_7 e22_8 e22_9 e22_10 e22_11 e22_12 e22_13 e22_14 e22_15 e22_16 e22_17 e22_18 e22_19 e22_20 e22_21 e22_22 e22_23); omega
    have zr22 := fz_rng s22
    have A22 : Im (fz s22 = 0) (RG σ s22 (rR σ 7) 0) := fun hf => RG.trk hp_2 (A1 (by omega)) q22_3 (by omega)
    have rNMp_22 := e22_0 rNMp_1; clear e22_0
    have TPRp_22 := e22_1 TPRp_1; clear e22_1
    have WNp_22 := e22_2 WNp_1; clear e22_2
    have PNp_22 := e22_3 PNp_1; clear e22_3
    have CCp_22 := e22_4 CCp_1; clear e22_4
    have I0_h37 : Im (fz s22 = 0) (tr s22 (rR σ 7) 0 v22 = 41) := fun hf => q22_4
    have I2_h38 : Im (fz s22 = 0) (tr s22 (rR σ 7) 2 v22 = 0) := fun hf => q22_6
    have I3_h39 : Im (fz s22 = 0) (tr s22 (rR σ 7) 3 v22 = 0) := fun hf => q22_7
    have I5_h40 : Im (fz s22 = 0) (tr s22 (rR σ 7) 5 v22 = 0) := fun hf => q22_9
    refine ⟨(by (try simp only [pre_X14_readPrimary, Ks22]); (all_goals (repeat' (first | with_reducible intro _ | with_reducible apply And.intro))); all_goals (first | assumption | trivial | (unfold NBP; (try simp only [Ks22]); omega) | (unfold NBQ; (try simp only [Ks22]); omega) | omega | (exact fun hf_ => (A22 (by omega))) | (exact fun hf_ => I0_h37 (by omega)) | (exact fun hf_ => I2_h38 (by omega)) | (exact fun hf_ => I3_h39 (by omega)) | (exact fun hf_ => I5_h40 (by omega)) | (exact fun hf_ => absurd hf_ (by omega)) | (split <;> omega) | done)), ?_⟩
    refine ⟨(by (try simp only [rk_X14_readPrimary, Ks22]); (all_goals (repeat' (first | with_reducible intro _ | with_reducible apply And.intro))); all_goals (first | assumption | trivial | (unfold NBP; (try simp only [Ks22]); omega) | (unfold NBQ; (try simp only [Ks22]); omega) | omega | (exact fun hf_ => (A22 (by omega))) | (exact fun hf_ => I0_h37 (by omega)) | (exact fun hf_ => I2_h38 (by omega)) | (exact fun hf_ => I3_h39 (by omega)) | (exact fun hf_ => I5_h40 (by omega)) | (exact fun hf_ => absurd hf_ (by omega)) | (split <;> omega) | done)), ?_⟩
    intro v35 s35 hv35 Ws35 e35_0 e35_1 e35_2 e35_3 e35_4 e35_5 e35_6 e35_7 e35_8 e35_9 q35
    unfold rng at hv35
    unfold post_X14_readPrimary at q35
    obtain ⟨q35_1, q35_2, q35_3, q35_4, q35_5, q35_6, q35_7, q35_8, q35_9, q35_10⟩ := q35
    (try simp only [Ks22, NBP, NBQ] at q35_1 q35_2 q35_3 q35_4 q35_5 q35_6 q35_7 q35_8 q35_9 q35_10 e35_0 e35_1 e35_2 e35_3 e35_4 e35_5 e35_6 e35_7 e35_8 e35_9)
    have Ks35 : rR s35 7 = rR σ 7 := by (try simp only [rR_sF, rR_sA, rR_sT, rR_sL] at e35_0 e35_1 e35_2 e35_3 e35_4 e35_5 e35_6 e35_7 e35_8 e35_9); omega
    have zr35 := fz_rng s35
    have A35 : Im (fz s35 = 0) (RG σ s35 (rR σ 7) 0) := fun hf => RG.trk hp_2 (A22 (by omega)) (q35_5 hf) (by omega)
    have I0_35 : Im (fz s35 = 0) _ := fun hf => (RG.fA hp_2 (q35_5 hf)).trans (I0_h37 (by omega))
    have I2_35 : Im (fz s35 = 0) _ := fun hf => (RG.fA hp_2 (q35_5 hf)).trans (I2_h38 (by omega))
    have I3_35 : Im (fz s35 = 0) _ := fun hf => (RG.fA hp_2 (q35_5 hf)).trans (I3_h39 (by omega))
    have I5_35 : Im (fz s35 = 0) _ := fun hf => (RG.fA hp_2 (q35_5 hf)).trans (I5_h40 (by omega))
    have TPRp_35 := e35_0 TPRp_22; clear e35_0
    have CCp_35 := e35_1 CCp_22; clear e35_1
    refine ⟨(by (try simp only [Ks35]); (all_goals (repeat' (first | with_reducible intro _ | with_reducible apply And.intro))); all_goals (first | assumption | trivial | (unfold NBP; (try simp only [Ks35]); omega) | (unfold NBQ; (try simp only [Ks35]); omega) | omega | (exact fun hf_ => (A35 (by omega))) | (exact fun hf_ => I0_35 (by omega)) | (exact fun hf_ => I2_35 (by omega)) | (exact fun hf_ => I3_35 (by omega)) | (exact fun hf_ => I5_35 (by omega)) | (exact fun hf_ => absurd hf_ (by omega)) | (split <;> omega) | done)), ?_⟩
    have E35 : Im (fz s35 = 0) (TS s35 (rR σ 7) 2 v35 0 (rF σ 0 31) 0 (v22 + 1) (rF s35 (rR σ 7) 7) 0 0 (rF s22 (rR σ 7) 32) (rF s35 (rR σ 7) 32)) := fun hf => (q35_8 hf).cst
    have F_h59 : Im (fz s35 = 0) (MI (sT s35 (rR σ 7) 1 v22 v35) (rR σ 7) v22 0 (rF σ 0 31) (rF s22 (rR σ 7) 32) (rF s35 (rR σ 7) 7) (rF s35 (rR σ 7) 32)) := fun hf => MI.init hp_2 (I0_35 hf) (I2_35 hf) (I3_35 hf) (I5_35 hf) (E35 hf)
    refine ⟨(by (try simp only [pre_X14_blanks, reduceIte, and_true, true_and, and_false, false_and, and_self, Nat.reduceEqDiff, fz_sA, rF_sA, rA_sA, rR_sA, rF_sT, rR_sT, sT_sF, fz_sT, rA_sT26 hp_2, rA_sT27 hp_2, rA_sT34 hp_2, rA_sT35 hp_2, rA_sT36 hp_2, rA_sT37 hp_2, rA_sT40 hp_2, TPRp_sT hp_2, WNp_sT hp_2, VMp_sT hp_2, KYp_sT hp_2, PPp_sT hp_2, WFp_sT hp_2, CCp_sT hp_2, rNMp_sT1, PNp_sT1, rk_n0 hp_2, Ks35]); (all_goals (repeat' (first | with_reducible intro _ | with_reducible apply And.intro))); all_goals (first | assumption | trivial | (unfold NBP; (try simp only [reduceIte, and_true, true_and, and_false, false_and, and_self, Nat.reduceEqDiff, fz_sA, rF_sA, rA_sA, rR_sA, rF_sT, rR_sT, sT_sF, fz_sT, rA_sT26 hp_2, rA_sT27 hp_2, rA_sT34 hp_2, rA_sT35 hp_2, rA_sT36 hp_2, rA_sT37 hp_2, rA_sT40 hp_2, TPRp_sT hp_2, WNp_sT hp_2, VMp_sT hp_2, KYp_sT hp_2, PPp_sT hp_2, WFp_sT hp_2, CCp_sT hp_2, rNMp_sT1, PNp_sT1, rk_n0 hp_2, Ks35]); omega) | (unfold NBQ; (try simp only [reduceIte, and_true, true_and, and_false, false_and, and_self, Nat.reduceEqDiff, fz_sA, rF_sA, rA_sA, rR_sA, rF_sT, rR_sT, sT_sF, fz_sT, rA_sT26 hp_2, rA_sT27 hp_2, rA_sT34 hp_2, rA_sT35 hp_2, rA_sT36 hp_2, rA_sT37 hp_2, rA_sT40 hp_2, TPRp_sT hp_2, WNp_sT hp_2, VMp_sT hp_2, KYp_sT hp_2, PPp_sT hp_2, WFp_sT hp_2, CCp_sT hp_2, rNMp_sT1, PNp_sT1, rk_n0 hp_2, Ks35]); omega) | omega | (exact fun hf_ => (RG.tst hp_2 (A35 (by omega)) (by decide) (by omega))) | (exact fun hf_ => (F_h59 (by omega)).cst) | (exact fun hf_ => absurd hf_ (by omega)) | (split <;> omega) | done)), ?_⟩
    intro s42 Ws42 e42_0 e42_1 e42_2 e42_3 e42_4 e42_5 e42_6 e42_7 e42_8 e42_9 e42_10 e42_11 e42_12 e42_13 e42_14 e42_15 e42_16 e42_17 e42_18 e42_19 e42_20 e42_21 e42_22 e42_23 R42 q42
    have q42 := dig_blanks q42 (by (try simp only [reduceIte, and_true, true_and, and_false, false_and, and_self, Nat.reduceEqDiff, fz_sA, rF_sA, rA_sA, rR_sA, rF_sT, rR_sT, sT_sF, fz_sT, rA_sT26 hp_2, rA_sT27 hp_2, rA_sT34 hp_2, rA_sT35 hp_2, rA_sT36 hp_2, rA_sT37 hp_2, rA_sT40 hp_2, TPRp_sT hp_2, WNp_sT hp_2, VMp_sT hp_2, KYp_sT hp_2, PPp_sT hp_2, WFp_sT hp_2, CCp_sT hp_2, rNMp_sT1, PNp_sT1, rk_n0 hp_2, Ks35]); omega)
    obtain ⟨q42_1, q42_2⟩ := q42
    (try simp only [reduceIte, and_true, true_and, and_false, false_and, and_self, Nat.reduceEqDiff, fz_sA, rF_sA, rA_sA, rR_sA, rF_sT, rR_sT, sT_sF, fz_sT, rA_sT26 hp_2, rA_sT27 hp_2, rA_sT34 hp_2, rA_sT35 hp_2, rA_sT36 hp_2, rA_sT37 hp_2, rA_sT40 hp_2, TPRp_sT hp_2, WNp_sT hp_2, VMp_sT hp_2, KYp_sT hp_2, PPp_sT hp_2, WFp_sT hp_2, CCp_sT hp_2, rNMp_sT1, PNp_sT1, rk_n0 hp_2, Ks35, NBP, NBQ] at q42_1 q42_2 e42_0 e42_1 e42_2 e42_3 e42_4 e42_5 e42_6 e42_7 e42_8 e42_9 e42_10 e42_11 e42_12 e42_13 e42_14 e42_15 e42_16 e42_17 e42_18 e42_19 e42_20 e42_21 e42_22 e42_23 R42)
    have Ks42 : rR s42 7 = rR σ 7 := by (try simp only [rR_sF, rR_sA, rR_sT, rR_sL] at e42_0 e42_1 e42_2 e42_3 e42_4 e42_5 e42_6 e42_7 e42_8 e42_9 e42_10 e42_11 e42_12 e42_13 e42_14 e42_15 e42_16 e42_17 e42_18 e42_19 e42_20 e42_21 e42_22 e42_23 R42); omega
    have zr42 := fz_rng s42
    have A42 : Im (fz s42 = 0) (RG σ s42 (rR σ 7) 0) := fun hf => RG.trk hp_2 (RG.tst hp_2 (A35 (by omega)) (by decide) (by omega)) R42 (by omega)
    have F_42 : Im (fz s42 = 0) _ := fun hf => MI.rg hp_2 R42 (F_h59 (by omega))
    have rNMp_42 := e42_0 q35_2; clear e42_0
    have TPRp_42 := e42_1 TPRp_35; clear e42_1
    have WNp_42 := e42_2 q35_3; clear e42_2
    have PNp_42 := e42_3 q35_4; clear e42_3
    have CCp_42 := e42_4 CCp_35; clear e42_4
    exact (by (try simp only [inv_X14_readMember_45, Ks42]); (all_goals (repeat' (first | with_reducible intro _ | with_reducible apply And.intro))); all_goals (first | assumption | trivial | (unfold NBP; (try simp only [Ks42]); omega) | (unfold NBQ; (try simp only [Ks42]); omega) | omega | (exact fun hf_ => (A42 (by omega))) | (exact fun hf_ => (F_42 (by omega)).cst) | (exact fun hf_ => absurd hf_ (by omega)) | (split <;> omega) | done))
  · have z8 := fz_n c8
    exact (by (try simp only [post_X14_readMember, Ks1]); (all_goals (repeat' (first | with_reducible intro _ | with_reducible apply And.intro))); all_goals (first | assumption | trivial | (unfold NBP; (try simp only [Ks1]); omega) | (unfold NBQ; (try simp only [Ks1]); omega) | omega | (exact fun hf_ => (A1 (by omega))) | (exact fun hf_ => absurd hf_ (by omega)) | (split <;> omega) | done))
set_option maxHeartbeats 4000000 in
theorem vX14_readMember_45 (n : Nat) (σ : rS) (gg : Nat) (hwf : rWF σ) (hp : pre_X14_readMember σ gg) (hr : rk_X14_readMember σ gg ≤ n + 1) : VC_X14_readMember_45 n σ gg (post_X14_readMember σ gg) := by
  unfold pre_X14_readMember at hp
  obtain ⟨hp_1, hp_2, hp_3, hp_4, hp_5, hp_6, hp_7⟩ := hp
  subst hp_1
  unfold rk_X14_readMember at hr
  have hN := hp_4
  unfold NBP at hN
  have hC := hp_3
  unfold CCp at hC
  obtain ⟨hC1, hC⟩ := hC
  have zr0 := fz_rng σ
  have hr2 : fz σ = 0 → 16 * (21 - rF σ 0 31).toNat + 6 ≤ n + 1 := fun h => by rw [if_pos h] at hr; exact hr
  have hr3 : 6 ≤ n + 1 := by have := hr; split at this <;> omega
  clear hr
  unfold VC_X14_readMember_45
  intro s45 y45_1 y45_2 Ws45 hy45_1 hy45_2 e45_0 e45_1 e45_2 e45_3 e45_4 e45_5 e45_6 e45_7 e45_8 e45_9 I45
  have Ks45 : rR s45 7 = rR σ 7 := by omega
  unfold inv_X14_readMember_45 at I45
  obtain ⟨I45_1, I45_2, I45_3, I45_4, I45_5, I45_6, I45_7, I45_8, I45_9, I45_10, I45_11, I45_12, I45_13⟩ := I45
  (try simp only [Ks45, NBP, NBQ] at I45_1 I45_2 I45_3 I45_4 I45_5 I45_6 I45_7 I45_8 I45_9 I45_10 I45_11 I45_12 I45_13)
  have zr45 := fz_rng s45
  have TPRp_45 := e45_0 hC1; clear e45_0
  have CCp_45 := e45_1 hp_3; clear e45_1
  refine ⟨(by (try simp only [pre_X14_here, Ks45]); (all_goals (repeat' (first | with_reducible intro _ | with_reducible apply And.intro))); all_goals (first | assumption | trivial | (unfold NBP; (try simp only [Ks45]); omega) | (unfold NBQ; (try simp only [Ks45]); omega) | omega | (exact fun hf_ => (I45_6 (by omega))) | (exact fun hf_ => (I45_13 (by omega)).cst) | (exact fun hf_ => absurd hf_ (by omega)) | (split <;> omega) | done)), ?_⟩
  intro v46 hv46 q46
  unfold rng at hv46
  unfold post_X14_here at q46
  obtain ⟨q46_1, q46_2⟩ := q46
  (try simp only [Ks45, NBP, NBQ] at q46_1 q46_2)
  refine ⟨fun c51 => ?_, fun c51 => ?_⟩
  · have T_h15 : Im (fz s45 = 0) (TS s45 (rR σ 7) 1 y45_1 0 (rF σ 0 31) 1 (rF σ (rR σ 7) 7) (rF s45 (rR σ 7) 7) 0 0 (rF σ (rR σ 7) 32) (rF s45 (rR σ 7) 32)) := fun hf => (MI.done hp_2 (I45_13 hf)).cst
    have T5_h16 : Im (fz s45 = 0) (tr s45 (rR σ 7) 5 y45_1 = 0) := fun hf => (I45_13 hf).2.2.1
    have T3_h17 : Im (fz s45 = 0) (tr s45 (rR σ 7) 3 y45_1 = 0) := fun hf => (I45_13 hf).2.1
    exact (by (try simp only [post_X14_readMember, Ks45]); (all_goals (repeat' (first | with_reducible intro _ | with_reducible apply And.intro))); all_goals (first | assumption | trivial | (unfold NBP; (try simp only [Ks45]); omega) | (unfold NBQ; (try simp only [Ks45]); omega) | omega | (exact fun hf_ => (I45_6 (by omega))) | (exact fun hf_ => (I45_13 (by omega)).cst) | (exact fun hf_ => (T_h15 (by omega)).cst) | (exact fun hf_ => T5_h16 (by omega)) | (exact fun hf_ => T3_h17 (by omega)) | (exact fun hf_ => absurd hf_ (by omega)) | (split <;> omega) | done))
  · intro hr_; unfold rng at hr_
    refine ⟨fun c58 => ?_, fun c58 => ?_⟩
    · have z58 := fz_n c58
      have T_h22 : Im (fz s45 = 0) (TS s45 (rR σ 7) 1 y45_1 0 (rF σ 0 31) 1 (rF σ (rR σ 7) 7) (rF s45 (rR σ 7) 7) 0 0 (rF σ (rR σ 7) 32) (rF s45 (rR σ 7) 32)) := fun hf => (MI.done hp_2 (I45_13 hf)).cst
      have T5_h23 : Im (fz s45 = 0) (tr s45 (rR σ 7) 5 y45_1 = 0) := fun hf => (I45_13 hf).2.2.1
      have T3_h24 : Im (fz s45 = 0) (tr s45 (rR σ 7) 3 y45_1 = 0) := fun hf => (I45_13 hf).2.1
      exact (by (try simp only [post_X14_readMember, Ks45]); (all_goals (repeat' (first | with_reducible intro _ | with_reducible apply And.intro))); all_goals (first | assumption | trivial | (unfold NBP; (try simp only [Ks45]); omega) | (unfold NBQ; (try simp only [Ks45]); omega) | omega | (exact fun hf_ => (I45_6 (by omega))) | (exact fun hf_ => (I45_13 (by omega)).cst) | (exact fun hf_ => (T_h22 (by omega)).cst) | (exact fun hf_ => T5_h23 (by omega)) | (exact fun hf_ => T3_h24 (by omega)) | (exact fun hf_ => absurd hf_ (by omega)) | (split <;> omega) | done))
    · have z58 := fz_z c58
      refine ⟨(by (try simp only [pre_X14_place, Ks45]); (all_goals (repeat' (first | with_reducible intro _ | with_reducible apply And.intro))); all_goals (first | assumption | trivial | (unfold NBP; (try simp only [Ks45]); omega) | (unfold NBQ; (try simp only [Ks45]); omega) | omega | (exact fun hf_ => (I45_6 (by omega))) | (exact fun hf_ => (I45_13 (by omega)).cst) | (exact fun hf_ => absurd hf_ (by omega)) | (split <;> omega) | done)), ?_⟩
      intro v62 hv62 q62
      unfold rng at hv62
      unfold post_X14_place at q62
      obtain ⟨q62_1, q62_2⟩ := q62
      (try simp only [Ks45, NBP, NBQ] at q62_1 q62_2)
      intro hr_; unfold rng at hr_
      refine ⟨(by (try simp only [rng, Ks45]); (all_goals (repeat' (first | with_reducible intro _ | with_reducible apply And.intro))); all_goals (first | assumption | trivial | (unfold NBP; (try simp only [Ks45]); omega) | (unfold NBQ; (try simp only [Ks45]); omega) | omega | (exact fun hf_ => (I45_6 (by omega))) | (exact fun hf_ => (I45_13 (by omega)).cst) | (exact fun hf_ => absurd hf_ (by omega)) | (split <;> omega) | done)), ?_⟩
      refine ⟨(by (try simp only [pre_X14_blanks, reduceIte, and_true, true_and, and_false, false_and, and_self, Nat.reduceEqDiff, fz_sF29, rF_sF, rA_sF, rR_sF, tr_sF, TS_sF, LQ_sF, MI_sF, IG_sF, HQ_sF, OQ_sF, rNMp_sF, PNp_sF, RG_l29, RG_r29, TPRp_sF29, WNp_sF29, VMp_sF29, KYp_sF29, PPp_sF29, WFp_sF29, CCp_sF29, rk_n0 hp_2, Ks45]); (all_goals (repeat' (first | with_reducible intro _ | with_reducible apply And.intro))); all_goals (first | assumption | trivial | (unfold NBP; (try simp only [reduceIte, and_true, true_and, and_false, false_and, and_self, Nat.reduceEqDiff, fz_sF29, rF_sF, rA_sF, rR_sF, tr_sF, TS_sF, LQ_sF, MI_sF, IG_sF, HQ_sF, OQ_sF, rNMp_sF, PNp_sF, RG_l29, RG_r29, TPRp_sF29, WNp_sF29, VMp_sF29, KYp_sF29, PPp_sF29, WFp_sF29, CCp_sF29, rk_n0 hp_2, Ks45]); omega) | (unfold NBQ; (try simp only [reduceIte, and_true, true_and, and_false, false_and, and_self, Nat.reduceEqDiff, fz_sF29, rF_sF, rA_sF, rR_sF, tr_sF, TS_sF, LQ_sF, MI_sF, IG_sF, HQ_sF, OQ_sF, rNMp_sF, PNp_sF, RG_l29, RG_r29, TPRp_sF29, WNp_sF29, VMp_sF29, KYp_sF29, PPp_sF29, WFp_sF29, CCp_sF29, rk_n0 hp_2, Ks45]); omega) | omega | (exact fun hf_ => (I45_6 (by omega))) | (exact fun hf_ => (I45_13 (by omega)).cst) | (exact fun hf_ => absurd hf_ (by omega)) | (split <;> omega) | done)), ?_⟩
      intro s77 Ws77 e77_0 e77_1 e77_2 e77_3 e77_4 e77_5 e77_6 e77_7 e77_8 e77_9 e77_10 e77_11 e77_12 e77_13 e77_14 e77_15 e77_16 e77_17 e77_18 e77_19 e77_20 e77_21 e77_22 e77_23 R77 q77
      have q77 := dig_blanks q77 (by (try simp only [reduceIte, and_true, true_and, and_false, false_and, and_self, Nat.reduceEqDiff, fz_sF29, rF_sF, rA_sF, rR_sF, tr_sF, TS_sF, LQ_sF, MI_sF, IG_sF, HQ_sF, OQ_sF, rNMp_sF, PNp_sF, RG_l29, RG_r29, TPRp_sF29, WNp_sF29, VMp_sF29, KYp_sF29, PPp_sF29, WFp_sF29, CCp_sF29, rk_n0 hp_2, Ks45]); omega)
      obtain ⟨q77_1, q77_2⟩ := q77
      (try simp only [reduceIte, and_true, true_and, and_false, false_and, and_self, Nat.reduceEqDiff, fz_sF29, rF_sF, rA_sF, rR_sF, tr_sF, TS_sF, LQ_sF, MI_sF, IG_sF, HQ_sF, OQ_sF, rNMp_sF, PNp_sF, RG_l29, RG_r29, TPRp_sF29, WNp_sF29, VMp_sF29, KYp_sF29, PPp_sF29, WFp_sF29, CCp_sF29, rk_n0 hp_2, Ks45, NBP, NBQ] at q77_1 q77_2 e77_0 e77_1 e77_2 e77_3 e77_4 e77_5 e77_6 e77_7 e77_8 e77_9 e77_10 e77_11 e77_12 e77_13 e77_14 e77_15 e77_16 e77_17 e77_18 e77_19 e77_20 e77_21 e77_22 e77_23 R77)
      have Ks77 : rR s77 7 = rR σ 7 := by (try simp only [rR_sF, rR_sA, rR_sT, rR_sL] at e77_0 e77_1 e77_2 e77_3 e77_4 e77_5 e77_6 e77_7 e77_8 e77_9 e77_10 e77_11 e77_12 e77_13 e77_14 e77_15 e77_16 e77_17 e77_18 e77_19 e77_20 e77_21 e77_22 e77_23 R77); omega
      have zr77 := fz_rng s77
      have A77 : Im (fz s77 = 0) (RG σ s77 (rR σ 7) 0) := fun hf => RG.trk hp_2 (I45_6 (by omega)) R77 (by omega)
      have F_77 : Im (fz s77 = 0) _ := fun hf => MI.rg hp_2 R77 (I45_13 (by omega))
      have rNMp_77 := e77_0 I45_3; clear e77_0
      have TPRp_77 := e77_1 TPRp_45; clear e77_1
      have WNp_77 := e77_2 I45_4; clear e77_2
      have PNp_77 := e77_3 I45_5; clear e77_3
      have CCp_77 := e77_4 CCp_45; clear e77_4
      refine ⟨(by (try simp only [pre_X14_here, Ks77]); (all_goals (repeat' (first | with_reducible intro _ | with_reducible apply And.intro))); all_goals (first | assumption | trivial | (unfold NBP; (try simp only [Ks77]); omega) | (unfold NBQ; (try simp only [Ks77]); omega) | omega | (exact fun hf_ => (A77 (by omega))) | (exact fun hf_ => (F_77 (by omega)).cst) | (exact fun hf_ => absurd hf_ (by omega)) | (split <;> omega) | done)), ?_⟩
      intro v81 hv81 q81
      unfold rng at hv81
      unfold post_X14_here at q81
      obtain ⟨q81_1, q81_2⟩ := q81
      (try simp only [Ks77, NBP, NBQ] at q81_1 q81_2)
      refine ⟨fun c86 => ?_, fun c86 => ?_⟩
      · refine ⟨(by (try simp only [pre_X14_tagName, Ks77]); (all_goals (repeat' (first | with_reducible intro _ | with_reducible apply And.intro))); all_goals (first | assumption | trivial | (unfold NBP; (try simp only [Ks77]); omega) | (unfold NBQ; (try simp only [Ks77]); omega) | omega | (exact fun hf_ => (A77 (by omega))) | (exact fun hf_ => (F_77 (by omega)).cst) | (exact fun hf_ => absurd hf_ (by omega)) | (split <;> omega) | done)), ?_⟩
        intro v137 s137 hv137 Ws137 e137_0 e137_1 e137_2 e137_3 e137_4 e137_5 e137_6 e137_7 e137_8 e137_9 e137_10 e137_11 e137_12 e137_13 e137_14 e137_15 e137_16 e137_17 R137 q137
        unfold rng at hv137
        have q137 := dig_tagName q137 (by (try simp only [Ks77]); omega) (by (try simp only [Ks77]); omega) (by (try simp only [Ks77]); omega)
        obtain ⟨q137_1, q137_2, q137_3, q137_4, q137_5, q137_6, q137_7, q137_8, q137_9, q137_10, q137_11⟩ := q137
        (try simp only [Ks77, NBP, NBQ] at q137_1 q137_2 q137_3 q137_4 q137_5 q137_6 q137_7 q137_8 q137_9 q137_10 q137_11 e137_0 e137_1 e137_2 e137_3 e137_4 e137_5 e137_6 e137_7 e137_8 e137_9 e137_10 e137_11 e137_12 e137_13 e137_14 e137_15 e137_16 e137_17 R137)
        have Ks137 : rR s137 7 = rR σ 7 := by (try simp only [rR_sF, rR_sA, rR_sT, rR_sL] at e137_0 e137_1 e137_2 e137_3 e137_4 e137_5 e137_6 e137_7 e137_8 e137_9 e137_10 e137_11 e137_12 e137_13 e137_14 e137_15 e137_16 e137_17 R137); omega
        have zr137 := fz_rng s137
        have A137 : Im (fz s137 = 0) (RG σ s137 (rR σ 7) 0) := fun hf => RG.trk hp_2 (A77 (by omega)) R137 (by omega)
        have F_137 : Im (fz s137 = 0) _ := fun hf => MI.rg hp_2 R137 (F_77 (by omega))
        have TPRp_137 := e137_0 TPRp_77; clear e137_0
        have WNp_137 := e137_1 WNp_77; clear e137_1
        have PNp_137 := e137_2 PNp_77; clear e137_2
        have CCp_137 := e137_3 CCp_77; clear e137_3
        refine ⟨(by (try simp only [pre_X14_node_t, Ks137]); (all_goals (repeat' (first | with_reducible intro _ | with_reducible apply And.intro))); all_goals (first | assumption | trivial | (unfold NBP; (try simp only [Ks137]); omega) | (unfold NBQ; (try simp only [Ks137]); omega) | omega | (exact fun hf_ => (A137 (by omega))) | (exact fun hf_ => (F_137 (by omega)).cst) | (exact fun hf_ => absurd hf_ (by omega)) | (split <;> omega) | done)), ?_⟩
        intro v142 s142 hv142 Ws142 e142_0 e142_1 e142_2 e142_3 e142_4 e142_5 e142_6 e142_7 e142_8 e142_9 e142_10 e142_11 e142_12 e142_13 e142_14 e142_15 e142_16 e142_17 e142_18 e142_19 e142_20 e142_21 e142_22 e142_23 q142
        unfold rng at hv142
        unfold post_X14_node_t at q142
        obtain ⟨q142_1, q142_2, q142_3, q142_4, q142_5, q142_6, q142_7, q142_8, q142_9⟩ := q142
        (try simp only [Ks137, NBP, NBQ] at q142_1 q142_2 q142_3 q142_4 q142_5 q142_6 q142_7 q142_8 q142_9 e142_0 e142_1 e142_2 e142_3 e142_4 e142_5 e142_6 e142_7 e142_8 e142_9 e142_10 e142_11 e142_12 e142_13 e142_14 e142_15 e142_16 e142_17 e142_18 e142_19 e142_20 e142_21 e142_22 e142_23)
        have Ks142 : rR s142 7 = rR σ 7 := by (try simp only [rR_sF, rR_sA, rR_sT, rR_sL] at e142_0 e142_1 e142_2 e142_3 e142_4 e142_5 e142_6 e142_7 e142_8 e142_9 e142_10 e142_11 e142_12 e142_13 e142_14 e142_15 e142_16 e142_17 e142_18 e142_19 e142_20 e142_21 e142_22 e142_23); omega
        have zr142 := fz_rng s142
        have A142 : Im (fz s142 = 0) (RG σ s142 (rR σ 7) 0) := fun hf => RG.trk hp_2 (A137 (by omega)) q142_3 (by omega)
        have F_142 : Im (fz s142 = 0) _ := fun hf => MI.rg hp_2 q142_3 (F_137 (by omega))
        have rNMp_142 := e142_0 q137_4; clear e142_0
        have TPRp_142 := e142_1 TPRp_137; clear e142_1
        have WNp_142 := e142_2 WNp_137; clear e142_2
        have PNp_142 := e142_3 PNp_137; clear e142_3
        have CCp_142 := e142_4 CCp_137; clear e142_4
        have P_h85 : Im (fz s142 = 0) (TS s142 (rR σ 7) 3 v142 0 (rF σ 0 31) 0 (rF s137 (rR σ 7) 7) (rF s142 (rR σ 7) 7) 0 0 (rF s137 (rR σ 7) 32) (rF s142 (rR σ 7) 32)) := fun hf => (TS.pt hp_2 q142_4 q142_5 (d := (rF σ 0 31)) (lo := (rF s137 (rR σ 7) 7)) (hi := (rF s142 (rR σ 7) 7)) (u := (rF s137 (rR σ 7) 32))).cst
        have Pn_h86 : Im (fz s142 = 0) (tr s142 (rR σ 7) 5 v142 = 0) := fun hf => q142_9
        refine ⟨fun c148 => ?_, fun c148 => ?_⟩
        · refine ⟨(by (try simp only [Ks142]); (all_goals (repeat' (first | with_reducible intro _ | with_reducible apply And.intro))); all_goals (first | assumption | trivial | (unfold NBP; (try simp only [Ks142]); omega) | (unfold NBQ; (try simp only [Ks142]); omega) | omega | (exact fun hf_ => (A142 (by omega))) | (exact fun hf_ => (F_142 (by omega)).cst) | (exact fun hf_ => (P_h85 (by omega)).cst) | (exact fun hf_ => Pn_h86 (by omega)) | (exact fun hf_ => absurd hf_ (by omega)) | (split <;> omega) | done)), ?_⟩
          have F_h89 : Im (fz s142 = 0) (MI (sT s142 (rR σ 7) 5 y45_2 v142) (rR σ 7) y45_1 v142 (rF σ 0 31) (rF σ (rR σ 7) 32) (rF s142 (rR σ 7) 7) (rF s142 (rR σ 7) 32)) := fun hf => (MI.p1 hp_2 (F_142 (by omega)) ((P_h85 (by omega)).cst) (Pn_h86 (by omega)))
          refine ⟨(by (try simp only [pre_X14_blanks, reduceIte, and_true, true_and, and_false, false_and, and_self, Nat.reduceEqDiff, fz_sA, rF_sA, rA_sA, rR_sA, rF_sT, rR_sT, sT_sF, fz_sT, rA_sT26 hp_2, rA_sT27 hp_2, rA_sT34 hp_2, rA_sT35 hp_2, rA_sT36 hp_2, rA_sT37 hp_2, rA_sT40 hp_2, TPRp_sT hp_2, WNp_sT hp_2, VMp_sT hp_2, KYp_sT hp_2, PPp_sT hp_2, WFp_sT hp_2, CCp_sT hp_2, rNMp_sT5, PNp_sT5, rk_n0 hp_2, Ks142]); (all_goals (repeat' (first | with_reducible intro _ | with_reducible apply And.intro))); all_goals (first | assumption | trivial | (unfold NBP; (try simp only [reduceIte, and_true, true_and, and_false, false_and, and_self, Nat.reduceEqDiff, fz_sA, rF_sA, rA_sA, rR_sA, rF_sT, rR_sT, sT_sF, fz_sT, rA_sT26 hp_2, rA_sT27 hp_2, rA_sT34 hp_2, rA_sT35 hp_2, rA_sT36 hp_2, rA_sT37 hp_2, rA_sT40 hp_2, TPRp_sT hp_2, WNp_sT hp_2, VMp_sT hp_2, KYp_sT hp_2, PPp_sT hp_2, WFp_sT hp_2, CCp_sT hp_2, rNMp_sT5, PNp_sT5, rk_n0 hp_2, Ks142]); omega) | (unfold NBQ; (try simp only [reduceIte, and_true, true_and, and_false, false_and, and_self, Nat.reduceEqDiff, fz_sA, rF_sA, rA_sA, rR_sA, rF_sT, rR_sT, sT_sF, fz_sT, rA_sT26 hp_2, rA_sT27 hp_2, rA_sT34 hp_2, rA_sT35 hp_2, rA_sT36 hp_2, rA_sT37 hp_2, rA_sT40 hp_2, TPRp_sT hp_2, WNp_sT hp_2, VMp_sT hp_2, KYp_sT hp_2, PPp_sT hp_2, WFp_sT hp_2, CCp_sT hp_2, rNMp_sT5, PNp_sT5, rk_n0 hp_2, Ks142]); omega) | omega | (exact fun hf_ => (RG.tst hp_2 (A142 (by omega)) (by decide) (by omega))) | (exact fun hf_ => (F_h89 (by omega)).cst) | (exact fun hf_ => absurd hf_ (by omega)) | (split <;> omega) | done)), ?_⟩
          intro s180 Ws180 e180_0 e180_1 e180_2 e180_3 e180_4 e180_5 e180_6 e180_7 e180_8 e180_9 e180_10 e180_11 e180_12 e180_13 e180_14 e180_15 e180_16 e180_17 e180_18 e180_19 e180_20 e180_21 e180_22 e180_23 R180 q180
          have q180 := dig_blanks q180 (by (try simp only [reduceIte, and_true, true_and, and_false, false_and, and_self, Nat.reduceEqDiff, fz_sA, rF_sA, rA_sA, rR_sA, rF_sT, rR_sT, sT_sF, fz_sT, rA_sT26 hp_2, rA_sT27 hp_2, rA_sT34 hp_2, rA_sT35 hp_2, rA_sT36 hp_2, rA_sT37 hp_2, rA_sT40 hp_2, TPRp_sT hp_2, WNp_sT hp_2, VMp_sT hp_2, KYp_sT hp_2, PPp_sT hp_2, WFp_sT hp_2, CCp_sT hp_2, rNMp_sT5, PNp_sT5, rk_n0 hp_2, Ks142]); omega)
          obtain ⟨q180_1, q180_2⟩ := q180
          (try simp only [reduceIte, and_true, true_and, and_false, false_and, and_self, Nat.reduceEqDiff, fz_sA, rF_sA, rA_sA, rR_sA, rF_sT, rR_sT, sT_sF, fz_sT, rA_sT26 hp_2, rA_sT27 hp_2, rA_sT34 hp_2, rA_sT35 hp_2, rA_sT36 hp_2, rA_sT37 hp_2, rA_sT40 hp_2, TPRp_sT hp_2, WNp_sT hp_2, VMp_sT hp_2, KYp_sT hp_2, PPp_sT hp_2, WFp_sT hp_2, CCp_sT hp_2, rNMp_sT5, PNp_sT5, rk_n0 hp_2, Ks142, NBP, NBQ] at q180_1 q180_2 e180_0 e180_1 e180_2 e180_3 e180_4 e180_5 e180_6 e180_7 e180_8 e180_9 e180_10 e180_11 e180_12 e180_13 e180_14 e180_15 e180_16 e180_17 e180_18 e180_19 e180_20 e180_21 e180_22 e180_23 R180)
          have Ks180 : rR s180 7 = rR σ 7 := by (try simp only [rR_sF, rR_sA, rR_sT, rR_sL] at e180_0 e180_1 e180_2 e180_3 e180_4 e180_5 e180_6 e180_7 e180_8 e180_9 e180_10 e180_11 e180_12 e180_13 e180_14 e180_15 e180_16 e180_17 e180_18 e180_19 e180_20 e180_21 e180_22 e180_23 R180); omega
          have zr180 := fz_rng s180
          have A180 : Im (fz s180 = 0) (RG σ s180 (rR σ 7) 0) := fun hf => RG.trk hp_2 (RG.tst hp_2 (A142 (by omega)) (by decide) (by omega)) R180 (by omega)
          have F_180 : Im (fz s180 = 0) _ := fun hf => MI.rg hp_2 R180 (F_h89 (by omega))
          have rNMp_180 := e180_0 rNMp_142; clear e180_0
          have TPRp_180 := e180_1 TPRp_142; clear e180_1
          have WNp_180 := e180_2 WNp_142; clear e180_2
          have PNp_180 := e180_3 PNp_142; clear e180_3
          have CCp_180 := e180_4 CCp_142; clear e180_4
          exact (by (try simp only [inv_X14_readMember_45, mu_X14_readMember_45, mu_X14_readMember_45, Ks180]); (all_goals (repeat' (first | with_reducible intro _ | with_reducible apply And.intro))); all_goals (first | assumption | trivial | (unfold NBP; (try simp only [Ks180]); omega) | (unfold NBQ; (try simp only [Ks180]); omega) | omega | (exact fun hf_ => (A180 (by omega))) | (exact fun hf_ => (F_180 (by omega)).cst) | (exact fun hf_ => absurd hf_ (by omega)) | (split <;> omega) | done))
        · refine ⟨(by (try simp only [Ks142]); (all_goals (repeat' (first | with_reducible intro _ | with_reducible apply And.intro))); all_goals (first | assumption | trivial | (unfold NBP; (try simp only [Ks142]); omega) | (unfold NBQ; (try simp only [Ks142]); omega) | omega | (exact fun hf_ => (A142 (by omega))) | (exact fun hf_ => (F_142 (by omega)).cst) | (exact fun hf_ => (P_h85 (by omega)).cst) | (exact fun hf_ => Pn_h86 (by omega)) | (exact fun hf_ => absurd hf_ (by omega)) | (split <;> omega) | done)), ?_⟩
          have F_h106 : Im (fz s142 = 0) (MI (sT s142 (rR σ 7) 2 y45_1 v142) (rR σ 7) y45_1 v142 (rF σ 0 31) (rF σ (rR σ 7) 32) (rF s142 (rR σ 7) 7) (rF s142 (rR σ 7) 32)) := fun hf => (MI.p0 hp_2 (F_142 (by omega)) ((P_h85 (by omega)).cst) (Pn_h86 (by omega)))
          refine ⟨(by (try simp only [pre_X14_blanks, reduceIte, and_true, true_and, and_false, false_and, and_self, Nat.reduceEqDiff, fz_sA, rF_sA, rA_sA, rR_sA, rF_sT, rR_sT, sT_sF, fz_sT, rA_sT26 hp_2, rA_sT27 hp_2, rA_sT34 hp_2, rA_sT35 hp_2, rA_sT36 hp_2, rA_sT37 hp_2, rA_sT40 hp_2, TPRp_sT hp_2, WNp_sT hp_2, VMp_sT hp_2, KYp_sT hp_2, PPp_sT hp_2, WFp_sT hp_2, CCp_sT hp_2, rNMp_sT2, PNp_sT2, rk_n0 hp_2, Ks142]); (all_goals (repeat' (first | with_reducible intro _ | with_reducible apply And.intro))); all_goals (first | assumption | trivial | (unfold NBP; (try simp only [reduceIte, and_true, true_and, and_false, false_and, and_self, Nat.reduceEqDiff, fz_sA, rF_sA, rA_sA, rR_sA, rF_sT, rR_sT, sT_sF, fz_sT, rA_sT26 hp_2, rA_sT27 hp_2, rA_sT34 hp_2, rA_sT35 hp_2, rA_sT36 hp_2, rA_sT37 hp_2, rA_sT40 hp_2, TPRp_sT hp_2, WNp_sT hp_2, VMp_sT hp_2, KYp_sT hp_2, PPp_sT hp_2, WFp_sT hp_2, CCp_sT hp_2, rNMp_sT2, PNp_sT2, rk_n0 hp_2, Ks142]); omega) | (unfold NBQ; (try simp only [reduceIte, and_true, true_and, and_false, false_and, and_self, Nat.reduceEqDiff, fz_sA, rF_sA, rA_sA, rR_sA, rF_sT, rR_sT, sT_sF, fz_sT, rA_sT26 hp_2, rA_sT27 hp_2, rA_sT34 hp_2, rA_sT35 hp_2, rA_sT36 hp_2, rA_sT37 hp_2, rA_sT40 hp_2, TPRp_sT hp_2, WNp_sT hp_2, VMp_sT hp_2, KYp_sT hp_2, PPp_sT hp_2, WFp_sT hp_2, CCp_sT hp_2, rNMp_sT2, PNp_sT2, rk_n0 hp_2, Ks142]); omega) | omega | (exact fun hf_ => (RG.tst hp_2 (A142 (by omega)) (by decide) (by omega))) | (exact fun hf_ => (F_h106 (by omega)).cst) | (exact fun hf_ => absurd hf_ (by omega)) | (split <;> omega) | done)), ?_⟩
          intro s180 Ws180 e180_0 e180_1 e180_2 e180_3 e180_4 e180_5 e180_6 e180_7 e180_8 e180_9 e180_10 e180_11 e180_12 e180_13 e180_14 e180_15 e180_16 e180_17 e180_18 e180_19 e180_20 e180_21 e180_22 e180_23 R180 q180
          have q180 := dig_blanks q180 (by (try simp only [reduceIte, and_true, true_and, and_false, false_and, and_self, Nat.reduceEqDiff, fz_sA, rF_sA, rA_sA, rR_sA, rF_sT, rR_sT, sT_sF, fz_sT, rA_sT26 hp_2, rA_sT27 hp_2, rA_sT34 hp_2, rA_sT35 hp_2, rA_sT36 hp_2, rA_sT37 hp_2, rA_sT40 hp_2, TPRp_sT hp_2, WNp_sT hp_2, VMp_sT hp_2, KYp_sT hp_2, PPp_sT hp_2, WFp_sT hp_2, CCp_sT hp_2, rNMp_sT2, PNp_sT2, rk_n0 hp_2, Ks142]); omega)
          obtain ⟨q180_1, q180_2⟩ := q180
          (try simp only [reduceIte, and_true, true_and, and_false, false_and, and_self, Nat.reduceEqDiff, fz_sA, rF_sA, rA_sA, rR_sA, rF_sT, rR_sT, sT_sF, fz_sT, rA_sT26 hp_2, rA_sT27 hp_2, rA_sT34 hp_2, rA_sT35 hp_2, rA_sT36 hp_2, rA_sT37 hp_2, rA_sT40 hp_2, TPRp_sT hp_2, WNp_sT hp_2, VMp_sT hp_2, KYp_sT hp_2, PPp_sT hp_2, WFp_sT hp_2, CCp_sT hp_2, rNMp_sT2, PNp_sT2, rk_n0 hp_2, Ks142, NBP, NBQ] at q180_1 q180_2 e180_0 e180_1 e180_2 e180_3 e180_4 e180_5 e180_6 e180_7 e180_8 e180_9 e180_10 e180_11 e180_12 e180_13 e180_14 e180_15 e180_16 e180_17 e180_18 e180_19 e180_20 e180_21 e180_22 e180_23 R180)
          have Ks180 : rR s180 7 = rR σ 7 := by (try simp only [rR_sF, rR_sA, rR_sT, rR_sL] at e180_0 e180_1 e180_2 e180_3 e180_4 e180_5 e180_6 e180_7 e180_8 e180_9 e180_10 e180_11 e180_12 e180_13 e180_14 e180_15 e180_16 e180_17 e180_18 e180_19 e180_20 e180_21 e180_22 e180_23 R180); omega
          have zr180 := fz_rng s180
          have A180 : Im (fz s180 = 0) (RG σ s180 (rR σ 7) 0) := fun hf => RG.trk hp_2 (RG.tst hp_2 (A142 (by omega)) (by decide) (by omega)) R180 (by omega)
          have F_180 : Im (fz s180 = 0) _ := fun hf => MI.rg hp_2 R180 (F_h106 (by omega))
          have rNMp_180 := e180_0 rNMp_142; clear e180_0
          have TPRp_180 := e180_1 TPRp_142; clear e180_1
          have WNp_180 := e180_2 WNp_142; clear e180_2
          have PNp_180 := e180_3 PNp_142; clear e180_3
          have CCp_180 := e180_4 CCp_142; clear e180_4
          exact (by (try simp only [inv_X14_readMember_45, mu_X14_readMember_45, mu_X14_readMember_45, Ks180]); (all_goals (repeat' (first | with_reducible intro _ | with_reducible apply And.intro))); all_goals (first | assumption | trivial | (unfold NBP; (try simp only [Ks180]); omega) | (unfold NBQ; (try simp only [Ks180]); omega) | omega | (exact fun hf_ => (A180 (by omega))) | (exact fun hf_ => (F_180 (by omega)).cst) | (exact fun hf_ => absurd hf_ (by omega)) | (split <;> omega) | done))
      · intro hr_; unfold rng at hr_
        refine ⟨(by (try simp only [rng, Ks77]); (all_goals (repeat' (first | with_reducible intro _ | with_reducible apply And.intro))); all_goals (first | assumption | trivial | (unfold NBP; (try simp only [Ks77]); omega) | (unfold NBQ; (try simp only [Ks77]); omega) | omega | (exact fun hf_ => (A77 (by omega))) | (exact fun hf_ => (F_77 (by omega)).cst) | (exact fun hf_ => absurd hf_ (by omega)) | (split <;> omega) | done)), ?_⟩
        refine ⟨(by (try simp only [pre_X14_node_t, reduceIte, and_true, true_and, and_false, false_and, and_self, Nat.reduceEqDiff, fz_sF29, rF_sF, rA_sF, rR_sF, tr_sF, TS_sF, LQ_sF, MI_sF, IG_sF, HQ_sF, OQ_sF, rNMp_sF, PNp_sF, RG_l29, RG_r29, TPRp_sF29, WNp_sF29, VMp_sF29, KYp_sF29, PPp_sF29, WFp_sF29, CCp_sF29, rk_n0 hp_2, Ks77]); (all_goals (repeat' (first | with_reducible intro _ | with_reducible apply And.intro))); all_goals (first | assumption | trivial | (unfold NBP; (try simp only [reduceIte, and_true, true_and, and_false, false_and, and_self, Nat.reduceEqDiff, fz_sF29, rF_sF, rA_sF, rR_sF, tr_sF, TS_sF, LQ_sF, MI_sF, IG_sF, HQ_sF, OQ_sF, rNMp_sF, PNp_sF, RG_l29, RG_r29, TPRp_sF29, WNp_sF29, VMp_sF29, KYp_sF29, PPp_sF29, WFp_sF29, CCp_sF29, rk_n0 hp_2, Ks77]); omega) | (unfold NBQ; (try simp only [reduceIte, and_true, true_and, and_false, false_and, and_self, Nat.reduceEqDiff, fz_sF29, rF_sF, rA_sF, rR_sF, tr_sF, TS_sF, LQ_sF, MI_sF, IG_sF, HQ_sF, OQ_sF, rNMp_sF, PNp_sF, RG_l29, RG_r29, TPRp_sF29, WNp_sF29, VMp_sF29, KYp_sF29, PPp_sF29, WFp_sF29, CCp_sF29, rk_n0 hp_2, Ks77]); omega) | omega | (exact fun hf_ => (A77 (by omega))) | (exact fun hf_ => (F_77 (by omega)).cst) | (exact fun hf_ => absurd hf_ (by omega)) | (split <;> omega) | done)), ?_⟩
        intro v105 s105 hv105 Ws105 e105_0 e105_1 e105_2 e105_3 e105_4 e105_5 e105_6 e105_7 e105_8 e105_9 e105_10 e105_11 e105_12 e105_13 e105_14 e105_15 e105_16 e105_17 e105_18 e105_19 e105_20 e105_21 e105_22 e105_23 q105
        unfold rng at hv105
        unfold post_X14_node_t at q105
        obtain ⟨q105_1, q105_2, q105_3, q105_4, q105_5, q105_6, q105_7, q105_8, q105_9⟩ := q105
        (try simp only [reduceIte, and_true, true_and, and_false, false_and, and_self, Nat.reduceEqDiff, fz_sF29, rF_sF, rA_sF, rR_sF, tr_sF, TS_sF, LQ_sF, MI_sF, IG_sF, HQ_sF, OQ_sF, rNMp_sF, PNp_sF, RG_l29, RG_r29, TPRp_sF29, WNp_sF29, VMp_sF29, KYp_sF29, PPp_sF29, WFp_sF29, CCp_sF29, rk_n0 hp_2, Ks77, NBP, NBQ] at q105_1 q105_2 q105_3 q105_4 q105_5 q105_6 q105_7 q105_8 q105_9 e105_0 e105_1 e105_2 e105_3 e105_4 e105_5 e105_6 e105_7 e105_8 e105_9 e105_10 e105_11 e105_12 e105_13 e105_14 e105_15 e105_16 e105_17 e105_18 e105_19 e105_20 e105_21 e105_22 e105_23)
        have Ks105 : rR s105 7 = rR σ 7 := by (try simp only [rR_sF, rR_sA, rR_sT, rR_sL] at e105_0 e105_1 e105_2 e105_3 e105_4 e105_5 e105_6 e105_7 e105_8 e105_9 e105_10 e105_11 e105_12 e105_13 e105_14 e105_15 e105_16 e105_17 e105_18 e105_19 e105_20 e105_21 e105_22 e105_23); omega
        have zr105 := fz_rng s105
        have A105 : Im (fz s105 = 0) (RG σ s105 (rR σ 7) 0) := fun hf => RG.trk hp_2 (A77 (by omega)) q105_3 (by omega)
        have F_105 : Im (fz s105 = 0) _ := fun hf => MI.rg hp_2 q105_3 (F_77 (by omega))
        have rNMp_105 := e105_0 rNMp_77; clear e105_0
        have TPRp_105 := e105_1 TPRp_77; clear e105_1
        have WNp_105 := e105_2 WNp_77; clear e105_2
        have PNp_105 := e105_3 PNp_77; clear e105_3
        have CCp_105 := e105_4 CCp_77; clear e105_4
        have Z0_h139 : Im (fz s105 = 0) (tr s105 (rR σ 7) 0 v105 = 43) := fun hf => q105_4
        have Z5_h140 : Im (fz s105 = 0) (tr s105 (rR σ 7) 5 v105 = 0) := fun hf => q105_9
        refine ⟨(by (try simp only [pre_X14_readArg, Ks105]); (all_goals (repeat' (first | with_reducible intro _ | with_reducible apply And.intro))); all_goals (first | assumption | trivial | (unfold NBP; (try simp only [Ks105]); omega) | (unfold NBQ; (try simp only [Ks105]); omega) | omega | (exact fun hf_ => (A105 (by omega))) | (exact fun hf_ => (F_105 (by omega)).cst) | (exact fun hf_ => Z0_h139 (by omega)) | (exact fun hf_ => Z5_h140 (by omega)) | (exact fun hf_ => absurd hf_ (by omega)) | (split <;> omega) | done)), ?_⟩
        refine ⟨(by (try simp only [rk_X14_readArg, Ks105]); (all_goals (repeat' (first | with_reducible intro _ | with_reducible apply And.intro))); all_goals (first | assumption | trivial | (unfold NBP; (try simp only [Ks105]); omega) | (unfold NBQ; (try simp only [Ks105]); omega) | omega | (exact fun hf_ => (A105 (by omega))) | (exact fun hf_ => (F_105 (by omega)).cst) | (exact fun hf_ => Z0_h139 (by omega)) | (exact fun hf_ => Z5_h140 (by omega)) | (exact fun hf_ => absurd hf_ (by omega)) | (split <;> omega) | done)), ?_⟩
        intro v120 s120 hv120 Ws120 e120_0 e120_1 e120_2 e120_3 e120_4 e120_5 e120_6 e120_7 e120_8 e120_9 q120
        unfold rng at hv120
        unfold post_X14_readArg at q120
        obtain ⟨q120_1, q120_2, q120_3, q120_4, q120_5, q120_6, q120_7, q120_8, q120_9, q120_10⟩ := q120
        (try simp only [Ks105, NBP, NBQ] at q120_1 q120_2 q120_3 q120_4 q120_5 q120_6 q120_7 q120_8 q120_9 q120_10 e120_0 e120_1 e120_2 e120_3 e120_4 e120_5 e120_6 e120_7 e120_8 e120_9)
        have Ks120 : rR s120 7 = rR σ 7 := by (try simp only [rR_sF, rR_sA, rR_sT, rR_sL] at e120_0 e120_1 e120_2 e120_3 e120_4 e120_5 e120_6 e120_7 e120_8 e120_9); omega
        have zr120 := fz_rng s120
        have A120 : Im (fz s120 = 0) (RG σ s120 (rR σ 7) 0) := fun hf => RG.trk hp_2 (A105 (by omega)) (q120_5 hf) (by omega)
        have F_120 : Im (fz s120 = 0) _ := fun hf => MI.rg hp_2 (q120_5 hf) (F_105 (by omega))
        have Z0_120 : Im (fz s120 = 0) _ := fun hf => (RG.fA hp_2 (q120_5 hf)).trans (Z0_h139 (by omega))
        have Z5_120 : Im (fz s120 = 0) _ := fun hf => (RG.fA hp_2 (q120_5 hf)).trans (Z5_h140 (by omega))
        have TPRp_120 := e120_0 TPRp_105; clear e120_0
        have CCp_120 := e120_1 CCp_105; clear e120_1
        refine ⟨(by (try simp only [Ks120]); (all_goals (repeat' (first | with_reducible intro _ | with_reducible apply And.intro))); all_goals (first | assumption | trivial | (unfold NBP; (try simp only [Ks120]); omega) | (unfold NBQ; (try simp only [Ks120]); omega) | omega | (exact fun hf_ => (A120 (by omega))) | (exact fun hf_ => (F_120 (by omega)).cst) | (exact fun hf_ => Z0_120 (by omega)) | (exact fun hf_ => Z5_120 (by omega)) | (exact fun hf_ => absurd hf_ (by omega)) | (split <;> omega) | done)), ?_⟩
        have F_123 : Im (fz s120 = 0) _ := fun hf => MI.tstA (f := 1) (i := v105) (z := v120) hp_2 (F_120 hf)
        have Z0_123 : Im (fz s120 = 0) _ := fun hf => (tr_ne (f := 1) (i := v105) (x := v120) hp_2 (by omega)).trans (Z0_120 hf)
        have Z5_123 : Im (fz s120 = 0) _ := fun hf => (tr_ne (f := 1) (i := v105) (x := v120) hp_2 (by omega)).trans (Z5_120 hf)
        have P_h160 : Im (fz s120 = 0) (TS (sT s120 (rR σ 7) 1 v105 v120) (rR σ 7) 3 v105 0 (rF σ 0 31) 0 (rF s77 (rR σ 7) 7) (rF s120 (rR σ 7) 7) 0 0 (rF s77 (rR σ 7) 32) (rF s120 (rR σ 7) 32)) := fun hf => (TS.ptby hp_2 (Z0_123 hf) (tr_eq hp_2) (TS.tstA (f := 1) (i := v105) (z := v120) hp_2 (q120_8 hf)) (d := (rF σ 0 31)) (lo := (rF s77 (rR σ 7) 7)) (hi := (rF s120 (rR σ 7) 7))).cst
        have Pn_h161 : Im (fz s120 = 0) (tr (sT s120 (rR σ 7) 1 v105 v120) (rR σ 7) 5 v105 = 0) := fun hf => Z5_123 hf
        refine ⟨(by (try simp only [pre_X14_need, reduceIte, and_true, true_and, and_false, false_and, and_self, Nat.reduceEqDiff, fz_sA, rF_sA, rA_sA, rR_sA, rF_sT, rR_sT, sT_sF, fz_sT, rA_sT26 hp_2, rA_sT27 hp_2, rA_sT34 hp_2, rA_sT35 hp_2, rA_sT36 hp_2, rA_sT37 hp_2, rA_sT40 hp_2, TPRp_sT hp_2, WNp_sT hp_2, VMp_sT hp_2, KYp_sT hp_2, PPp_sT hp_2, WFp_sT hp_2, CCp_sT hp_2, rNMp_sT1, PNp_sT1, rk_n0 hp_2, Ks120]); (all_goals (repeat' (first | with_reducible intro _ | with_reducible apply And.intro))); all_goals (first | assumption | trivial | (unfold NBP; (try simp only [reduceIte, and_true, true_and, and_false, false_and, and_self, Nat.reduceEqDiff, fz_sA, rF_sA, rA_sA, rR_sA, rF_sT, rR_sT, sT_sF, fz_sT, rA_sT26 hp_2, rA_sT27 hp_2, rA_sT34 hp_2, rA_sT35 hp_2, rA_sT36 hp_2, rA_sT37 hp_2, rA_sT40 hp_2, TPRp_sT hp_2, WNp_sT hp_2, VMp_sT hp_2, KYp_sT hp_2, PPp_sT hp_2, WFp_sT hp_2, CCp_sT hp_2, rNMp_sT1, PNp_sT1, rk_n0 hp_2, Ks120]); omega) | (unfold NBQ; (try simp only [reduceIte, and_true, true_and, and_false, false_and, and_self, Nat.reduceEqDiff, fz_sA, rF_sA, rA_sA, rR_sA, rF_sT, rR_sT, sT_sF, fz_sT, rA_sT26 hp_2, rA_sT27 hp_2, rA_sT34 hp_2, rA_sT35 hp_2, rA_sT36 hp_2, rA_sT37 hp_2, rA_sT40 hp_2, TPRp_sT hp_2, WNp_sT hp_2, VMp_sT hp_2, KYp_sT hp_2, PPp_sT hp_2, WFp_sT hp_2, CCp_sT hp_2, rNMp_sT1, PNp_sT1, rk_n0 hp_2, Ks120]); omega) | omega | (exact fun hf_ => (RG.tst hp_2 (A120 (by omega)) (by decide) (by omega))) | (exact fun hf_ => (F_123 (by omega)).cst) | (exact fun hf_ => Z0_123 (by omega)) | (exact fun hf_ => Z5_123 (by omega)) | (exact fun hf_ => (P_h160 (by omega)).cst) | (exact fun hf_ => Pn_h161 (by omega)) | (exact fun hf_ => absurd hf_ (by omega)) | (split <;> omega) | done)), ?_⟩
        intro s127 Ws127 e127_0 e127_1 e127_2 e127_3 e127_4 e127_5 e127_6 e127_7 e127_8 e127_9 e127_10 e127_11 e127_12 e127_13 e127_14 e127_15 e127_16 e127_17 e127_18 e127_19 e127_20 e127_21 R127 q127
        have q127 := dig_need q127 (by (try simp only [reduceIte, and_true, true_and, and_false, false_and, and_self, Nat.reduceEqDiff, fz_sA, rF_sA, rA_sA, rR_sA, rF_sT, rR_sT, sT_sF, fz_sT, rA_sT26 hp_2, rA_sT27 hp_2, rA_sT34 hp_2, rA_sT35 hp_2, rA_sT36 hp_2, rA_sT37 hp_2, rA_sT40 hp_2, TPRp_sT hp_2, WNp_sT hp_2, VMp_sT hp_2, KYp_sT hp_2, PPp_sT hp_2, WFp_sT hp_2, CCp_sT hp_2, rNMp_sT1, PNp_sT1, rk_n0 hp_2, Ks120]); omega)
        obtain ⟨q127_1, q127_2, q127_3, q127_4⟩ := q127
        (try simp only [reduceIte, and_true, true_and, and_false, false_and, and_self, Nat.reduceEqDiff, fz_sA, rF_sA, rA_sA, rR_sA, rF_sT, rR_sT, sT_sF, fz_sT, rA_sT26 hp_2, rA_sT27 hp_2, rA_sT34 hp_2, rA_sT35 hp_2, rA_sT36 hp_2, rA_sT37 hp_2, rA_sT40 hp_2, TPRp_sT hp_2, WNp_sT hp_2, VMp_sT hp_2, KYp_sT hp_2, PPp_sT hp_2, WFp_sT hp_2, CCp_sT hp_2, rNMp_sT1, PNp_sT1, rk_n0 hp_2, Ks120, NBP, NBQ] at q127_1 q127_2 q127_3 q127_4 e127_0 e127_1 e127_2 e127_3 e127_4 e127_5 e127_6 e127_7 e127_8 e127_9 e127_10 e127_11 e127_12 e127_13 e127_14 e127_15 e127_16 e127_17 e127_18 e127_19 e127_20 e127_21 R127)
        have Ks127 : rR s127 7 = rR σ 7 := by (try simp only [rR_sF, rR_sA, rR_sT, rR_sL] at e127_0 e127_1 e127_2 e127_3 e127_4 e127_5 e127_6 e127_7 e127_8 e127_9 e127_10 e127_11 e127_12 e127_13 e127_14 e127_15 e127_16 e127_17 e127_18 e127_19 e127_20 e127_21 R127); omega
        have zr127 := fz_rng s127
        have A127 : Im (fz s127 = 0) (RG σ s127 (rR σ 7) 0) := fun hf => RG.trk hp_2 (RG.tst hp_2 (A120 (by omega)) (by decide) (by omega)) R127 (by omega)
        have F_127 : Im (fz s127 = 0) _ := fun hf => MI.rg hp_2 R127 (F_123 (by omega))
        have Z0_127 : Im (fz s127 = 0) _ := fun hf => (RG.fA hp_2 R127).trans (Z0_123 (by omega))
        have Z5_127 : Im (fz s127 = 0) _ := fun hf => (RG.fA hp_2 R127).trans (Z5_123 (by omega))
        have P_127 : Im (fz s127 = 0) _ := fun hf => RG.tsA hp_2 R127 (P_h160 (by omega))
        have Pn_127 : Im (fz s127 = 0) _ := fun hf => (RG.fA hp_2 R127).trans (Pn_h161 (by omega))
        have rNMp_127 := e127_0 q120_2; clear e127_0
        have TPRp_127 := e127_1 TPRp_120; clear e127_1
        have WNp_127 := e127_2 q120_3; clear e127_2
        have PNp_127 := e127_3 q120_4; clear e127_3
        have CCp_127 := e127_4 CCp_120; clear e127_4
        refine ⟨fun c148 => ?_, fun c148 => ?_⟩
        · refine ⟨(by (try simp only [Ks127]); (all_goals (repeat' (first | with_reducible intro _ | with_reducible apply And.intro))); all_goals (first | assumption | trivial | (unfold NBP; (try simp only [Ks127]); omega) | (unfold NBQ; (try simp only [Ks127]); omega) | omega | (exact fun hf_ => (A127 (by omega))) | (exact fun hf_ => (F_127 (by omega)).cst) | (exact fun hf_ => Z0_127 (by omega)) | (exact fun hf_ => Z5_127 (by omega)) | (exact fun hf_ => (P_127 (by omega)).cst) | (exact fun hf_ => Pn_127 (by omega)) | (exact fun hf_ => absurd hf_ (by omega)) | (split <;> omega) | done)), ?_⟩
          have F_h182 : Im (fz s127 = 0) (MI (sT s127 (rR σ 7) 5 y45_2 v105) (rR σ 7) y45_1 v105 (rF σ 0 31) (rF σ (rR σ 7) 32) (rF s127 (rR σ 7) 7) (rF s127 (rR σ 7) 32)) := fun hf => (MI.p1 hp_2 (F_127 (by omega)) ((P_127 (by omega)).cst) (Pn_127 (by omega)))
          refine ⟨(by (try simp only [pre_X14_blanks, reduceIte, and_true, true_and, and_false, false_and, and_self, Nat.reduceEqDiff, fz_sA, rF_sA, rA_sA, rR_sA, rF_sT, rR_sT, sT_sF, fz_sT, rA_sT26 hp_2, rA_sT27 hp_2, rA_sT34 hp_2, rA_sT35 hp_2, rA_sT36 hp_2, rA_sT37 hp_2, rA_sT40 hp_2, TPRp_sT hp_2, WNp_sT hp_2, VMp_sT hp_2, KYp_sT hp_2, PPp_sT hp_2, WFp_sT hp_2, CCp_sT hp_2, rNMp_sT5, PNp_sT5, rk_n0 hp_2, Ks127]); (all_goals (repeat' (first | with_reducible intro _ | with_reducible apply And.intro))); all_goals (first | assumption | trivial | (unfold NBP; (try simp only [reduceIte, and_true, true_and, and_false, false_and, and_self, Nat.reduceEqDiff, fz_sA, rF_sA, rA_sA, rR_sA, rF_sT, rR_sT, sT_sF, fz_sT, rA_sT26 hp_2, rA_sT27 hp_2, rA_sT34 hp_2, rA_sT35 hp_2, rA_sT36 hp_2, rA_sT37 hp_2, rA_sT40 hp_2, TPRp_sT hp_2, WNp_sT hp_2, VMp_sT hp_2, KYp_sT hp_2, PPp_sT hp_2, WFp_sT hp_2, CCp_sT hp_2, rNMp_sT5, PNp_sT5, rk_n0 hp_2, Ks127]); omega) | (unfold NBQ; (try simp only [reduceIte, and_true, true_and, and_false, false_and, and_self, Nat.reduceEqDiff, fz_sA, rF_sA, rA_sA, rR_sA, rF_sT, rR_sT, sT_sF, fz_sT, rA_sT26 hp_2, rA_sT27 hp_2, rA_sT34 hp_2, rA_sT35 hp_2, rA_sT36 hp_2, rA_sT37 hp_2, rA_sT40 hp_2, TPRp_sT hp_2, WNp_sT hp_2, VMp_sT hp_2, KYp_sT hp_2, PPp_sT hp_2, WFp_sT hp_2, CCp_sT hp_2, rNMp_sT5, PNp_sT5, rk_n0 hp_2, Ks127]); omega) | omega | (exact fun hf_ => (RG.tst hp_2 (A127 (by omega)) (by decide) (by omega))) | (exact fun hf_ => (F_h182 (by omega)).cst) | (exact fun hf_ => absurd hf_ (by omega)) | (split <;> omega) | done)), ?_⟩
          intro s180 Ws180 e180_0 e180_1 e180_2 e180_3 e180_4 e180_5 e180_6 e180_7 e180_8 e180_9 e180_10 e180_11 e180_12 e180_13 e180_14 e180_15 e180_16 e180_17 e180_18 e180_19 e180_20 e180_21 e180_22 e180_23 R180 q180
          have q180 := dig_blanks q180 (by (try simp only [reduceIte, and_true, true_and, and_false, false_and, and_self, Nat.reduceEqDiff, fz_sA, rF_sA, rA_sA, rR_sA, rF_sT, rR_sT, sT_sF, fz_sT, rA_sT26 hp_2, rA_sT27 hp_2, rA_sT34 hp_2, rA_sT35 hp_2, rA_sT36 hp_2, rA_sT37 hp_2, rA_sT40 hp_2, TPRp_sT hp_2, WNp_sT hp_2, VMp_sT hp_2, KYp_sT hp_2, PPp_sT hp_2, WFp_sT hp_2, CCp_sT hp_2, rNMp_sT5, PNp_sT5, rk_n0 hp_2, Ks127]); omega)
          obtain ⟨q180_1, q180_2⟩ := q180
          (try simp only [reduceIte, and_true, true_and, and_false, false_and, and_self, Nat.reduceEqDiff, fz_sA, rF_sA, rA_sA, rR_sA, rF_sT, rR_sT, sT_sF, fz_sT, rA_sT26 hp_2, rA_sT27 hp_2, rA_sT34 hp_2, rA_sT35 hp_2, rA_sT36 hp_2, rA_sT37 hp_2, rA_sT40 hp_2, TPRp_sT hp_2, WNp_sT hp_2, VMp_sT hp_2, KYp_sT hp_2, PPp_sT hp_2, WFp_sT hp_2, CCp_sT hp_2, rNMp_sT5, PNp_sT5, rk_n0 hp_2, Ks127, NBP, NBQ] at q180_1 q180_2 e180_0 e180_1 e180_2 e180_3 e180_4 e180_5 e180_6 e180_7 e180_8 e180_9 e180_10 e180_11 e180_12 e180_13 e180_14 e180_15 e180_16 e180_17 e180_18 e180_19 e180_20 e180_21 e180_22 e180_23 R180)
          have Ks180 : rR s180 7 = rR σ 7 := by (try simp only [rR_sF, rR_sA, rR_sT, rR_sL] at e180_0 e180_1 e180_2 e180_3 e180_4 e180_5 e180_6 e180_7 e180_8 e180_9 e180_10 e180_11 e180_12 e180_13 e180_14 e180_15 e180_16 e180_17 e180_18 e180_19 e180_20 e180_21 e180_22 e180_23 R180); omega
          have zr180 := fz_rng s180
          have A180 : Im (fz s180 = 0) (RG σ s180 (rR σ 7) 0) := fun hf => RG.trk hp_2 (RG.tst hp_2 (A127 (by omega)) (by decide) (by omega)) R180 (by omega)
          have F_180 : Im (fz s180 = 0) _ := fun hf => MI.rg hp_2 R180 (F_h182 (by omega))
          have rNMp_180 := e180_0 rNMp_127; clear e180_0
          have TPRp_180 := e180_1 TPRp_127; clear e180_1
          have WNp_180 := e180_2 WNp_127; clear e180_2
          have PNp_180 := e180_3 PNp_127; clear e180_3
          have CCp_180 := e180_4 CCp_127; clear e180_4
          exact (by (try simp only [inv_X14_readMember_45, mu_X14_readMember_45, mu_X14_readMember_45, Ks180]); (all_goals (repeat' (first | with_reducible intro _ | with_reducible apply And.intro))); all_goals (first | assumption | trivial | (unfold NBP; (try simp only [Ks180]); omega) | (unfold NBQ; (try simp only [Ks180]); omega) | omega | (exact fun hf_ => (A180 (by omega))) | (exact fun hf_ => (F_180 (by omega)).cst) | (exact fun hf_ => absurd hf_ (by omega)) | (split <;> omega) | done))
        · refine ⟨(by (try simp only [Ks127]); (all_goals (repeat' (first | with_reducible intro _ | with_reducible apply And.intro))); all_goals (first | assumption | trivial | (unfold NBP; (try simp only [Ks127]); omega) | (unfold NBQ; (try simp only [Ks127]); omega) | omega | (exact fun hf_ => (A127 (by omega))) | (exact fun hf_ => (F_127 (by omega)).cst) | (exact fun hf_ => Z0_127 (by omega)) | (exact fun hf_ => Z5_127 (by omega)) | (exact fun hf_ => (P_127 (by omega)).cst) | (exact fun hf_ => Pn_127 (by omega)) | (exact fun hf_ => absurd hf_ (by omega)) | (split <;> omega) | done)), ?_⟩
          have F_h199 : Im (fz s127 = 0) (MI (sT s127 (rR σ 7) 2 y45_1 v105) (rR σ 7) y45_1 v105 (rF σ 0 31) (rF σ (rR σ 7) 32) (rF s127 (rR σ 7) 7) (rF s127 (rR σ 7) 32)) := fun hf => (MI.p0 hp_2 (F_127 (by omega)) ((P_127 (by omega)).cst) (Pn_127 (by omega)))
          refine ⟨(by (try simp only [pre_X14_blanks, reduceIte, and_true, true_and, and_false, false_and, and_self, Nat.reduceEqDiff, fz_sA, rF_sA, rA_sA, rR_sA, rF_sT, rR_sT, sT_sF, fz_sT, rA_sT26 hp_2, rA_sT27 hp_2, rA_sT34 hp_2, rA_sT35 hp_2, rA_sT36 hp_2, rA_sT37 hp_2, rA_sT40 hp_2, TPRp_sT hp_2, WNp_sT hp_2, VMp_sT hp_2, KYp_sT hp_2, PPp_sT hp_2, WFp_sT hp_2, CCp_sT hp_2, rNMp_sT2, PNp_sT2, rk_n0 hp_2, Ks127]); (all_goals (repeat' (first | with_reducible intro _ | with_reducible apply And.intro))); all_goals (first | assumption | trivial | (unfold NBP; (try simp only [reduceIte, and_true, true_and, and_false, false_and, and_self, Nat.reduceEqDiff, fz_sA, rF_sA, rA_sA, rR_sA, rF_sT, rR_sT, sT_sF, fz_sT, rA_sT26 hp_2, rA_sT27 hp_2, rA_sT34 hp_2, rA_sT35 hp_2, rA_sT36 hp_2, rA_sT37 hp_2, rA_sT40 hp_2, TPRp_sT hp_2, WNp_sT hp_2, VMp_sT hp_2, KYp_sT hp_2, PPp_sT hp_2, WFp_sT hp_2, CCp_sT hp_2, rNMp_sT2, PNp_sT2, rk_n0 hp_2, Ks127]); omega) | (unfold NBQ; (try simp only [reduceIte, and_true, true_and, and_false, false_and, and_self, Nat.reduceEqDiff, fz_sA, rF_sA, rA_sA, rR_sA, rF_sT, rR_sT, sT_sF, fz_sT, rA_sT26 hp_2, rA_sT27 hp_2, rA_sT34 hp_2, rA_sT35 hp_2, rA_sT36 hp_2, rA_sT37 hp_2, rA_sT40 hp_2, TPRp_sT hp_2, WNp_sT hp_2, VMp_sT hp_2, KYp_sT hp_2, PPp_sT hp_2, WFp_sT hp_2, CCp_sT hp_2, rNMp_sT2, PNp_sT2, rk_n0 hp_2, Ks127]); omega) | omega | (exact fun hf_ => (RG.tst hp_2 (A127 (by omega)) (by decide) (by omega))) | (exact fun hf_ => (F_h199 (by omega)).cst) | (exact fun hf_ => absurd hf_ (by omega)) | (split <;> omega) | done)), ?_⟩
          intro s180 Ws180 e180_0 e180_1 e180_2 e180_3 e180_4 e180_5 e180_6 e180_7 e180_8 e180_9 e180_10 e180_11 e180_12 e180_13 e180_14 e180_15 e180_16 e180_17 e180_18 e180_19 e180_20 e180_21 e180_22 e180_23 R180 q180
          have q180 := dig_blanks q180 (by (try simp only [reduceIte, and_true, true_and, and_false, false_and, and_self, Nat.reduceEqDiff, fz_sA, rF_sA, rA_sA, rR_sA, rF_sT, rR_sT, sT_sF, fz_sT, rA_sT26 hp_2, rA_sT27 hp_2, rA_sT34 hp_2, rA_sT35 hp_2, rA_sT36 hp_2, rA_sT37 hp_2, rA_sT40 hp_2, TPRp_sT hp_2, WNp_sT hp_2, VMp_sT hp_2, KYp_sT hp_2, PPp_sT hp_2, WFp_sT hp_2, CCp_sT hp_2, rNMp_sT2, PNp_sT2, rk_n0 hp_2, Ks127]); omega)
          obtain ⟨q180_1, q180_2⟩ := q180
          (try simp only [reduceIte, and_true, true_and, and_false, false_and, and_self, Nat.reduceEqDiff, fz_sA, rF_sA, rA_sA, rR_sA, rF_sT, rR_sT, sT_sF, fz_sT, rA_sT26 hp_2, rA_sT27 hp_2, rA_sT34 hp_2, rA_sT35 hp_2, rA_sT36 hp_2, rA_sT37 hp_2, rA_sT40 hp_2, TPRp_sT hp_2, WNp_sT hp_2, VMp_sT hp_2, KYp_sT hp_2, PPp_sT hp_2, WFp_sT hp_2, CCp_sT hp_2, rNMp_sT2, PNp_sT2, rk_n0 hp_2, Ks127, NBP, NBQ] at q180_1 q180_2 e180_0 e180_1 e180_2 e180_3 e180_4 e180_5 e180_6 e180_7 e180_8 e180_9 e180_10 e180_11 e180_12 e180_13 e180_14 e180_15 e180_16 e180_17 e180_18 e180_19 e180_20 e180_21 e180_22 e180_23 R180)
          have Ks180 : rR s180 7 = rR σ 7 := by (try simp only [rR_sF, rR_sA, rR_sT, rR_sL] at e180_0 e180_1 e180_2 e180_3 e180_4 e180_5 e180_6 e180_7 e180_8 e180_9 e180_10 e180_11 e180_12 e180_13 e180_14 e180_15 e180_16 e180_17 e180_18 e180_19 e180_20 e180_21 e180_22 e180_23 R180); omega
          have zr180 := fz_rng s180
          have A180 : Im (fz s180 = 0) (RG σ s180 (rR σ 7) 0) := fun hf => RG.trk hp_2 (RG.tst hp_2 (A127 (by omega)) (by decide) (by omega)) R180 (by omega)
          have F_180 : Im (fz s180 = 0) _ := fun hf => MI.rg hp_2 R180 (F_h199 (by omega))
          have rNMp_180 := e180_0 rNMp_127; clear e180_0
          have TPRp_180 := e180_1 TPRp_127; clear e180_1
          have WNp_180 := e180_2 WNp_127; clear e180_2
          have PNp_180 := e180_3 PNp_127; clear e180_3
          have CCp_180 := e180_4 CCp_127; clear e180_4
          exact (by (try simp only [inv_X14_readMember_45, mu_X14_readMember_45, mu_X14_readMember_45, Ks180]); (all_goals (repeat' (first | with_reducible intro _ | with_reducible apply And.intro))); all_goals (first | assumption | trivial | (unfold NBP; (try simp only [Ks180]); omega) | (unfold NBQ; (try simp only [Ks180]); omega) | omega | (exact fun hf_ => (A180 (by omega))) | (exact fun hf_ => (F_180 (by omega)).cst) | (exact fun hf_ => absurd hf_ (by omega)) | (split <;> omega) | done))
set_option maxHeartbeats 4000000 in
theorem vX14_readMember_45m (n : Nat) (σ : rS) (gg : Nat) (hwf : rWF σ) (hp : pre_X14_readMember σ gg) (hr : rk_X14_readMember σ gg ≤ n + 1) : VC_X14_readMember_45m n σ gg := by
  unfold pre_X14_readMember at hp
  obtain ⟨hp_1, hp_2, hp_3, hp_4, hp_5, hp_6, hp_7⟩ := hp
  subst hp_1
  unfold rk_X14_readMember at hr
  have hN := hp_4
  unfold NBP at hN
  have hC := hp_3
  unfold CCp at hC
  obtain ⟨hC1, hC⟩ := hC
  have zr0 := fz_rng σ
  have hr2 : fz σ = 0 → 16 * (21 - rF σ 0 31).toNat + 6 ≤ n + 1 := fun h => by rw [if_pos h] at hr; exact hr
  have hr3 : 6 ≤ n + 1 := by have := hr; split at this <;> omega
  clear hr
  unfold VC_X14_readMember_45m
  (try simp only [inv_X14_readMember_45, mu_X14_readMember_45]); (all_goals (repeat' (first | with_reducible intro _ | with_reducible apply And.intro))); all_goals (first | assumption | omega | grind (splits := 20))
