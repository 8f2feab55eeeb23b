set_option maxHeartbeats 20000000 in
theorem vX14_readApplied (n : Nat) (σ : rS) (gg : Nat) (g : Nat → Int → Int) (hwf : rWF σ) (hp : pre_X14_readApplied σ gg g) (hr : rk_X14_readApplied σ gg g ≤ n + 1) : VC_X14_readApplied n σ gg g (post_X14_readApplied σ gg g) := by
  unfold pre_X14_readApplied at hp
  obtain ⟨hp_1, hp_2, hp_3, hp_4, hp_5, hp_6, hp_7, hp_8⟩ := hp
  subst hp_1
  unfold rk_X14_readApplied at hr
  have hN := hp_4
  unfold NBP at hN
  have hC := hp_3
  unfold CCp at hC
  obtain ⟨hC1, hC⟩ := hC
  have zr0 := fz_rng σ
  have hr2 : fz σ = 0 → 16 * (21 - rF σ 0 31).toNat + 7 ≤ n + 1 := fun h => by rw [if_pos h] at hr; exact hr
  have hr3 : 7 ≤ n + 1 := by have := hr; split at this <;> omega
  clear hr
  unfold VC_X14_readApplied
  refine ⟨(by (all_goals (repeat' (first | with_reducible intro _ | with_reducible apply And.intro))); all_goals (first | assumption | trivial | (unfold NBP; omega) | (unfold NBQ; omega) | omega | (have zz_ := fz_z (by assumption); omega) | (split <;> omega) | done)), ?_⟩
  refine ⟨(by (try simp only [pre_X14_blanks]); (all_goals (repeat' (first | with_reducible intro _ | with_reducible apply And.intro | with_reducible refine Exists.intro g ?_ | with_reducible refine Im.and ?_ ?_))); all_goals (first | assumption | trivial | ((with_reducible refine Im.i fun hf_ => ?_); first | exact ((fun _ => RG.rf) hf_) | exact (hp_8 hf_) | exact ((fun _ => GK.rf) hf_) | exact ok1.i | (exact LI.z (fun h => absurd h (by decide))) | (exact absurd hf_ (by omega)) | omega) | (unfold NBP; omega) | (unfold NBQ; omega) | omega | (have zz_ := fz_z (by assumption); omega) | (split <;> omega) | done)), ?_⟩
  intro s1 Ws1 e1_0 e1_1 e1_2 e1_3 e1_4 e1_5 e1_6 e1_7 e1_8 e1_9 e1_10 e1_11 e1_12 e1_13 e1_14 e1_15 e1_16 e1_17 e1_18 e1_19 e1_20 e1_21 e1_22 e1_23 e1_24 e1_25 e1_26 e1_27 e1_28 R1 q1
  have q1 := dig_blanks q1 (by omega)
  obtain ⟨q1_1, q1_2⟩ := q1
  (try simp only [NBP, NBQ] at q1_1 q1_2 e1_0 e1_1 e1_2 e1_3 e1_4 e1_5 e1_6 e1_7 e1_8 e1_9 e1_10 e1_11 e1_12 e1_13 e1_14 e1_15 e1_16 e1_17 e1_18 e1_19 e1_20 e1_21 e1_22 e1_23 e1_24 e1_25 e1_26 e1_27 e1_28 R1)
  have Ks1 : rR s1 7 = rR σ 7 := by first | assumption | ((try simp only [rR_sF, rR_sA, rR_sT, rR_sL] at e1_0 e1_1 e1_2 e1_3 e1_4 e1_5 e1_6 e1_7 e1_8 e1_9 e1_10 e1_11 e1_12 e1_13 e1_14 e1_15 e1_16 e1_17 e1_18 e1_19 e1_20 e1_21 e1_22 e1_23 e1_24 e1_25 e1_26 e1_27 e1_28 R1); omega)
  have zr1 := fz_rng s1
  have zc1 : fz s1 = 0 → fz σ = 0 := fun hf => by omega
  have A1 : Im (fz s1 = 0) (RG σ s1 (rR σ 7) 0) := fun hf => RG.trk hp_2 ((fun _ => RG.rf) (zc1 hf)) R1 (Or.inr (Or.inl rfl))
  have Ku1 : Im (fz s1 = 0) (GK g g (rF σ (rR σ 7) 7) (rF s1 (rR σ 7) 7) 0) := fun hf => GK.trans ((fun _ => GK.rf) (zc1 hf)) (GK.up (N := rF σ (rR σ 7) 7) (N' := rF s1 (rR σ 7) 7) (c := 0) (by first | assumption | omega | (simp only [rF_sT, rF_sA]; omega))) (Or.inr (Or.inl rfl))
  have Gu2 : Im (fz s1 = 0) (GS s1 (rR σ 7) g) := fun hf => GS.mv hp_2 (hp_8 (zc1 hf)) R1 (by first | assumption | omega | (simp only [rF_sT, rF_sA]; omega)) (by first | (exact Int.le_of_eq (Eq.symm (by assumption))) | omega | (simp only [rF_sT, rF_sA]; omega))
  have rNMp_1 := e1_0 hp_5; clear e1_0
  have TPRp_1 := e1_1 hC1; clear e1_1
  have WNp_1 := e1_2 hp_6; clear e1_2
  have PNp_1 := e1_3 hp_7; clear e1_3
  have CCp_1 := e1_4 hp_3; clear e1_4
  intro hr_; unfold rng at hr_
  refine ⟨fun c8 => ?_, fun c8 => ?_⟩
  · have z8 := fz_z c8
    refine ⟨(by (try simp only [pre_X14_place, Ks1]); (all_goals (repeat' (first | with_reducible intro _ | with_reducible apply And.intro | with_reducible refine Exists.intro g ?_ | with_reducible refine Im.and ?_ ?_))); all_goals (first | assumption | trivial | ((with_reducible refine Im.i fun hf_ => ?_); first | exact (A1 hf_) | exact (Gu2 hf_) | exact (Ku1 hf_) | exact ok1.i | (exact LI.z (fun h => absurd h (by decide))) | (exact absurd hf_ (by omega)) | omega) | (unfold NBP; (try simp only [Ks1]); omega) | (unfold NBQ; (try simp only [Ks1]); omega) | omega | (have zz_ := fz_z (by assumption); omega) | (split <;> omega) | done)), ?_⟩
    intro v14 hv14 q14
    unfold rng at hv14
    unfold post_X14_place at q14
    obtain ⟨q14_1, q14_2⟩ := q14
    (try simp only [Ks1, NBP, NBQ] at q14_1 q14_2)
    refine ⟨(by (try simp only [pre_X14_here, Ks1]); (all_goals (repeat' (first | with_reducible intro _ | with_reducible apply And.intro | with_reducible refine Exists.intro g ?_ | with_reducible refine Im.and ?_ ?_))); all_goals (first | assumption | trivial | ((with_reducible refine Im.i fun hf_ => ?_); first | exact (A1 hf_) | exact (Gu2 hf_) | exact (Ku1 hf_) | exact ok1.i | (exact LI.z (fun h => absurd h (by decide))) | (exact absurd hf_ (by omega)) | omega) | (unfold NBP; (try simp only [Ks1]); omega) | (unfold NBQ; (try simp only [Ks1]); omega) | omega | (have zz_ := fz_z (by assumption); omega) | (split <;> omega) | done)), ?_⟩
    intro v19 hv19 q19
    unfold rng at hv19
    unfold post_X14_here at q19
    obtain ⟨q19_1, q19_2⟩ := q19
    (try simp only [Ks1, NBP, NBQ] at q19_1 q19_2)
    refine ⟨fun c24 => ?_, fun c24 => ?_⟩
    · refine ⟨(by (try simp only [pre_X14_here, Ks1]); (all_goals (repeat' (first | with_reducible intro _ | with_reducible apply And.intro | with_reducible refine Exists.intro g ?_ | with_reducible refine Im.and ?_ ?_))); all_goals (first | assumption | trivial | ((with_reducible refine Im.i fun hf_ => ?_); first | exact (A1 hf_) | exact (Gu2 hf_) | exact (Ku1 hf_) | exact ok1.i | (exact LI.z (fun h => absurd h (by decide))) | (exact absurd hf_ (by omega)) | omega) | (unfold NBP; (try simp only [Ks1]); omega) | (unfold NBQ; (try simp only [Ks1]); omega) | omega | (have zz_ := fz_z (by assumption); omega) | (split <;> omega) | done)), ?_⟩
      intro v70 hv70 q70
      unfold rng at hv70
      unfold post_X14_here at q70
      obtain ⟨q70_1, q70_2⟩ := q70
      (try simp only [Ks1, NBP, NBQ] at q70_1 q70_2)
      refine ⟨fun c75 => ?_, fun c75 => ?_⟩
      · refine ⟨(by (try simp only [pre_X14_isWord_t, Ks1]); (all_goals (repeat' (first | with_reducible intro _ | with_reducible apply And.intro | with_reducible refine Exists.intro g ?_ | with_reducible refine Im.and ?_ ?_))); all_goals (first | assumption | trivial | ((with_reducible refine Im.i fun hf_ => ?_); first | exact (A1 hf_) | exact (Gu2 hf_) | exact (Ku1 hf_) | exact ok1.i | (exact LI.z (fun h => absurd h (by decide))) | (exact absurd hf_ (by omega)) | omega) | (unfold NBP; (try simp only [Ks1]); omega) | (unfold NBQ; (try simp only [Ks1]); omega) | omega | (have zz_ := fz_z (by assumption); omega) | (split <;> omega) | done)), ?_⟩
        intro v129 hv129 q129
        unfold rng at hv129
        unfold post_X14_isWord_t at q129
        obtain ⟨q129_1, q129_2, q129_3⟩ := q129
        (try simp only [Ks1, NBP, NBQ] at q129_1 q129_2 q129_3)
        refine ⟨g, ?_⟩
        refine ⟨45, ?_⟩
        refine ⟨(by (try simp only [pre_X14_readCall, Ks1]); (all_goals (repeat' (first | with_reducible intro _ | with_reducible apply And.intro | with_reducible refine Exists.intro g ?_ | with_reducible refine Im.and ?_ ?_))); all_goals (first | assumption | trivial | ((with_reducible refine Im.i fun hf_ => ?_); first | exact (A1 hf_) | exact (Gu2 hf_) | exact (Ku1 hf_) | exact ok1.i | (exact LI.z (fun h => absurd h (by decide))) | (exact absurd hf_ (by omega)) | omega) | (unfold NBP; (try simp only [Ks1]); omega) | (unfold NBQ; (try simp only [Ks1]); omega) | omega | (have zz_ := fz_z (by assumption); omega) | (split <;> omega) | done)), ?_⟩
        refine ⟨(by (try simp only [rk_X14_readCall, Ks1]); (all_goals (repeat' (first | with_reducible intro _ | with_reducible apply And.intro | with_reducible refine Exists.intro g ?_ | with_reducible refine Im.and ?_ ?_))); all_goals (first | assumption | trivial | ((with_reducible refine Im.i fun hf_ => ?_); first | exact (A1 hf_) | exact (Gu2 hf_) | exact (Ku1 hf_) | exact ok1.i | (exact LI.z (fun h => absurd h (by decide))) | (exact absurd hf_ (by omega)) | omega) | (unfold NBP; (try simp only [Ks1]); omega) | (unfold NBQ; (try simp only [Ks1]); omega) | omega | (have zz_ := fz_z (by assumption); omega) | (split <;> omega) | done)), ?_⟩
        intro v132 s132 hv132 Ws132 e132_0 e132_1 e132_2 e132_3 e132_4 e132_5 e132_6 e132_7 e132_8 e132_9 q132
        unfold rng at hv132
        unfold post_X14_readCall at q132
        obtain ⟨q132_1, q132_2, q132_3, q132_4, q132_5, q132_6, q132_7, q132_8, q132_9⟩ := q132
        (try simp only [Ks1, NBP, NBQ] at q132_1 q132_2 q132_3 q132_4 q132_5 q132_6 q132_7 q132_8 q132_9 e132_0 e132_1 e132_2 e132_3 e132_4 e132_5 e132_6 e132_7 e132_8 e132_9)
        have Ks132 : rR s132 7 = rR σ 7 := by first | assumption | ((try simp only [rR_sF, rR_sA, rR_sT, rR_sL] at e132_0 e132_1 e132_2 e132_3 e132_4 e132_5 e132_6 e132_7 e132_8 e132_9); omega)
        have zr132 := fz_rng s132
        have zc132 : fz s132 = 0 → fz s1 = 0 := fun hf => by omega
        have A132 : Im (fz s132 = 0) (RG σ s132 (rR σ 7) 0) := fun hf => RG.trk hp_2 (A1 (zc132 hf)) (q132_8 (by omega)) (Or.inr (Or.inl rfl))
        obtain ⟨g132, X132⟩ := q132_9
        have Ku3 : Im (fz s132 = 0) (GK g g132 (rF σ (rR σ 7) 7) (rF s132 (rR σ 7) 7) 0) := fun hf => GK.trans (Ku1 (zc132 hf)) ((X132 hf).2.1) (Or.inr (Or.inl rfl))
        have Gu4 : Im (fz s132 = 0) (GS s132 (rR σ 7) g132) := fun hf => (X132 hf).1
        have r132 : Im (fz s132 = 0) _ := fun hf => (X132 hf).2.2.1
        have TPRp_132 := e132_0 TPRp_1; clear e132_0
        have CCp_132 := e132_1 CCp_1; clear e132_1
        exact (by (try simp only [post_X14_readApplied, Ks132]); (all_goals (repeat' (first | with_reducible intro _ | with_reducible apply And.intro | with_reducible refine Exists.intro g132 ?_ | with_reducible refine Im.and ?_ ?_))); all_goals (first | assumption | trivial | ((with_reducible refine Im.i fun hf_ => ?_); first | exact (A132 hf_) | exact (Gu4 hf_) | exact (Ku3 hf_) | exact (r132 hf_).cst | exact ok1.i | (exact LI.z (fun h => absurd h (by decide))) | (exact absurd hf_ (by omega)) | omega) | (unfold NBP; (try simp only [Ks132]); omega) | (unfold NBQ; (try simp only [Ks132]); omega) | omega | (have zz_ := fz_z (by assumption); omega) | (split <;> omega) | done))
      · intro hr_; unfold rng at hr_
        refine ⟨(by (try simp only [rng, Ks1]); (all_goals (repeat' (first | with_reducible intro _ | with_reducible apply And.intro | with_reducible refine Exists.intro g ?_ | with_reducible refine Im.and ?_ ?_))); all_goals (first | assumption | trivial | ((with_reducible refine Im.i fun hf_ => ?_); first | exact (A1 hf_) | exact (Gu2 hf_) | exact (Ku1 hf_) | exact ok1.i | (exact LI.z (fun h => absurd h (by decide))) | (exact absurd hf_ (by omega)) | omega) | (unfold NBP; (try simp only [Ks1]); omega) | (unfold NBQ; (try simp only [Ks1]); omega) | omega | (have zz_ := fz_z (by assumption); omega) | (split <;> omega) | done)), ?_⟩
        refine ⟨g, ?_⟩
        refine ⟨(by (try simp only [pre_X14_readArg, reduceIte, and_true, true_and, and_false, false_and, and_self, Nat.reduceEqDiff, fz_sF29, rF_sF, rA_sF, rR_sF, tr_sF, rNMp_sF, PNp_sF, GS_F29, OP_F29, NR_F29, LI_F29, RG_l29, RG_r29, TPRp_sF29, WNp_sF29, VMp_sF29, KYp_sF29, PPp_sF29, WFp_sF29, CCp_sF29, rk_n0 hp_2, Ks1]); (all_goals (repeat' (first | with_reducible intro _ | with_reducible apply And.intro | with_reducible refine Exists.intro g ?_ | with_reducible refine Im.and ?_ ?_))); all_goals (first | assumption | trivial | ((with_reducible refine Im.i fun hf_ => ?_); first | exact (A1 hf_) | exact (Gu2 hf_) | exact (Ku1 hf_) | exact ok1.i | (exact LI.z (fun h => absurd h (by decide))) | (exact absurd hf_ (by omega)) | omega) | (unfold NBP; (try simp only [reduceIte, and_true, true_and, and_false, false_and, and_self, Nat.reduceEqDiff, fz_sF29, rF_sF, rA_sF, rR_sF, tr_sF, rNMp_sF, PNp_sF, GS_F29, OP_F29, NR_F29, LI_F29, RG_l29, RG_r29, TPRp_sF29, WNp_sF29, VMp_sF29, KYp_sF29, PPp_sF29, WFp_sF29, CCp_sF29, rk_n0 hp_2, Ks1]); omega) | (unfold NBQ; (try simp only [reduceIte, and_true, true_and, and_false, false_and, and_self, Nat.reduceEqDiff, fz_sF29, rF_sF, rA_sF, rR_sF, tr_sF, rNMp_sF, PNp_sF, GS_F29, OP_F29, NR_F29, LI_F29, RG_l29, RG_r29, TPRp_sF29, WNp_sF29, VMp_sF29, KYp_sF29, PPp_sF29, WFp_sF29, CCp_sF29, rk_n0 hp_2, Ks1]); omega) | omega | (have zz_ := fz_z (by assumption); omega) | (split <;> omega) | done)), ?_⟩
        refine ⟨(by (try simp only [rk_X14_readArg, reduceIte, and_true, true_and, and_false, false_and, and_self, Nat.reduceEqDiff, fz_sF29, rF_sF, rA_sF, rR_sF, tr_sF, rNMp_sF, PNp_sF, GS_F29, OP_F29, NR_F29, LI_F29, RG_l29, RG_r29, TPRp_sF29, WNp_sF29, VMp_sF29, KYp_sF29, PPp_sF29, WFp_sF29, CCp_sF29, rk_n0 hp_2, Ks1]); (all_goals (repeat' (first | with_reducible intro _ | with_reducible apply And.intro | with_reducible refine Exists.intro g ?_ | with_reducible refine Im.and ?_ ?_))); all_goals (first | assumption | trivial | ((with_reducible refine Im.i fun hf_ => ?_); first | exact (A1 hf_) | exact (Gu2 hf_) | exact (Ku1 hf_) | exact ok1.i | (exact LI.z (fun h => absurd h (by decide))) | (exact absurd hf_ (by omega)) | omega) | (unfold NBP; (try simp only [reduceIte, and_true, true_and, and_false, false_and, and_self, Nat.reduceEqDiff, fz_sF29, rF_sF, rA_sF, rR_sF, tr_sF, rNMp_sF, PNp_sF, GS_F29, OP_F29, NR_F29, LI_F29, RG_l29, RG_r29, TPRp_sF29, WNp_sF29, VMp_sF29, KYp_sF29, PPp_sF29, WFp_sF29, CCp_sF29, rk_n0 hp_2, Ks1]); omega) | (unfold NBQ; (try simp only [reduceIte, and_true, true_and, and_false, false_and, and_self, Nat.reduceEqDiff, fz_sF29, rF_sF, rA_sF, rR_sF, tr_sF, rNMp_sF, PNp_sF, GS_F29, OP_F29, NR_F29, LI_F29, RG_l29, RG_r29, TPRp_sF29, WNp_sF29, VMp_sF29, KYp_sF29, PPp_sF29, WFp_sF29, CCp_sF29, rk_n0 hp_2, Ks1]); omega) | omega | (have zz_ := fz_z (by assumption); omega) | (split <;> omega) | done)), ?_⟩
        intro v89 s89 hv89 Ws89 e89_0 e89_1 e89_2 e89_3 e89_4 e89_5 e89_6 e89_7 e89_8 e89_9 q89
        unfold rng at hv89
        unfold post_X14_readArg at q89
        obtain ⟨q89_1, q89_2, q89_3, q89_4, q89_5, q89_6, q89_7, q89_8, q89_9⟩ := q89
        (try simp only [reduceIte, and_true, true_and, and_false, false_and, and_self, Nat.reduceEqDiff, fz_sF29, rF_sF, rA_sF, rR_sF, tr_sF, rNMp_sF, PNp_sF, GS_F29, OP_F29, NR_F29, LI_F29, RG_l29, RG_r29, TPRp_sF29, WNp_sF29, VMp_sF29, KYp_sF29, PPp_sF29, WFp_sF29, CCp_sF29, rk_n0 hp_2, Ks1, NBP, NBQ] at q89_1 q89_2 q89_3 q89_4 q89_5 q89_6 q89_7 q89_8 q89_9 e89_0 e89_1 e89_2 e89_3 e89_4 e89_5 e89_6 e89_7 e89_8 e89_9)
        have Ks89 : rR s89 7 = rR σ 7 := by first | assumption | ((try simp only [rR_sF, rR_sA, rR_sT, rR_sL] at e89_0 e89_1 e89_2 e89_3 e89_4 e89_5 e89_6 e89_7 e89_8 e89_9); omega)
        have zr89 := fz_rng s89
        have zc89 : fz s89 = 0 → fz s1 = 0 := fun hf => by omega
        have A89 : Im (fz s89 = 0) (RG σ s89 (rR σ 7) 0) := fun hf => RG.trk hp_2 (A1 (zc89 hf)) (q89_8 (by omega)) (Or.inr (Or.inl rfl))
        obtain ⟨g89, X89⟩ := q89_9
        have Ku5 : Im (fz s89 = 0) (GK g g89 (rF σ (rR σ 7) 7) (rF s89 (rR σ 7) 7) 0) := fun hf => GK.trans (Ku1 (zc89 hf)) ((X89 hf).2.1) (Or.inr (Or.inl rfl))
        have Gu6 : Im (fz s89 = 0) (GS s89 (rR σ 7) g89) := fun hf => (X89 hf).1
        have r89 : Im (fz s89 = 0) _ := fun hf => (X89 hf).2.2.1
        have TPRp_89 := e89_0 TPRp_1; clear e89_0
        have CCp_89 := e89_1 CCp_1; clear e89_1
        refine ⟨(by (try simp only [pre_X14_need, Ks89]); (all_goals (repeat' (first | with_reducible intro _ | with_reducible apply And.intro | with_reducible refine Exists.intro g89 ?_ | with_reducible refine Im.and ?_ ?_))); all_goals (first | assumption | trivial | ((with_reducible refine Im.i fun hf_ => ?_); first | exact (A89 hf_) | exact (Gu6 hf_) | exact (Ku5 hf_) | exact (r89 hf_).cst | exact ok1.i | (exact LI.z (fun h => absurd h (by decide))) | (exact absurd hf_ (by omega)) | omega) | (unfold NBP; (try simp only [Ks89]); omega) | (unfold NBQ; (try simp only [Ks89]); omega) | omega | (have zz_ := fz_z (by assumption); omega) | (split <;> omega) | done)), ?_⟩
        intro s96 Ws96 e96_0 e96_1 e96_2 e96_3 e96_4 e96_5 e96_6 e96_7 e96_8 e96_9 e96_10 e96_11 e96_12 e96_13 e96_14 e96_15 e96_16 e96_17 e96_18 e96_19 e96_20 e96_21 e96_22 e96_23 e96_24 e96_25 e96_26 R96 q96
        have q96 := dig_need q96 (by (try simp only [Ks89]); omega)
        obtain ⟨q96_1, q96_2, q96_3, q96_4⟩ := q96
        (try simp only [Ks89, NBP, NBQ] at q96_1 q96_2 q96_3 q96_4 e96_0 e96_1 e96_2 e96_3 e96_4 e96_5 e96_6 e96_7 e96_8 e96_9 e96_10 e96_11 e96_12 e96_13 e96_14 e96_15 e96_16 e96_17 e96_18 e96_19 e96_20 e96_21 e96_22 e96_23 e96_24 e96_25 e96_26 R96)
        have Ks96 : rR s96 7 = rR σ 7 := by first | assumption | ((try simp only [rR_sF, rR_sA, rR_sT, rR_sL] at e96_0 e96_1 e96_2 e96_3 e96_4 e96_5 e96_6 e96_7 e96_8 e96_9 e96_10 e96_11 e96_12 e96_13 e96_14 e96_15 e96_16 e96_17 e96_18 e96_19 e96_20 e96_21 e96_22 e96_23 e96_24 e96_25 e96_26 R96); omega)
        have zr96 := fz_rng s96
        have zc96 : fz s96 = 0 → fz s89 = 0 := fun hf => by omega
        have A96 : Im (fz s96 = 0) (RG σ s96 (rR σ 7) 0) := fun hf => RG.trk hp_2 (A89 (zc96 hf)) R96 (Or.inr (Or.inl rfl))
        have r89u7 : Im (fz s96 = 0) _ := fun hf => NR.gk (r89 (zc96 hf)) (GK.up (g := g89) (N := rF s89 (rR σ 7) 7) (N' := rF s96 (rR σ 7) 7) (c := 0) (by first | assumption | omega | (simp only [rF_sT, rF_sA]; omega)))
        have Ku8 : Im (fz s96 = 0) (GK g g89 (rF σ (rR σ 7) 7) (rF s96 (rR σ 7) 7) 0) := fun hf => GK.trans (Ku5 (zc96 hf)) (GK.up (N := rF s89 (rR σ 7) 7) (N' := rF s96 (rR σ 7) 7) (c := 0) (by first | assumption | omega | (simp only [rF_sT, rF_sA]; omega))) (Or.inr (Or.inl rfl))
        have Gu9 : Im (fz s96 = 0) (GS s96 (rR σ 7) g89) := fun hf => GS.mv hp_2 (Gu6 (zc96 hf)) R96 (by first | assumption | omega | (simp only [rF_sT, rF_sA]; omega)) (by first | (exact Int.le_of_eq (Eq.symm (by assumption))) | omega | (simp only [rF_sT, rF_sA]; omega))
        have rNMp_96 := e96_0 q89_2; clear e96_0
        have TPRp_96 := e96_1 TPRp_89; clear e96_1
        have WNp_96 := e96_2 q89_3; clear e96_2
        have PNp_96 := e96_3 q89_4; clear e96_3
        have CCp_96 := e96_4 CCp_89; clear e96_4
        refine ⟨(by (try simp only [pre_X14_need, Ks96]); (all_goals (repeat' (first | with_reducible intro _ | with_reducible apply And.intro | with_reducible refine Exists.intro g89 ?_ | with_reducible refine Im.and ?_ ?_))); all_goals (first | assumption | trivial | ((with_reducible refine Im.i fun hf_ => ?_); first | exact (A96 hf_) | exact (Gu9 hf_) | exact (Ku8 hf_) | exact (r89u7 hf_).cst | exact ok1.i | (exact LI.z (fun h => absurd h (by decide))) | (exact absurd hf_ (by omega)) | omega) | (unfold NBP; (try simp only [Ks96]); omega) | (unfold NBQ; (try simp only [Ks96]); omega) | omega | (have zz_ := fz_z (by assumption); omega) | (split <;> omega) | done)), ?_⟩
        intro s102 Ws102 e102_0 e102_1 e102_2 e102_3 e102_4 e102_5 e102_6 e102_7 e102_8 e102_9 e102_10 e102_11 e102_12 e102_13 e102_14 e102_15 e102_16 e102_17 e102_18 e102_19 e102_20 e102_21 e102_22 e102_23 e102_24 e102_25 e102_26 R102 q102
        have q102 := dig_need q102 (by (try simp only [Ks96]); omega)
        obtain ⟨q102_1, q102_2, q102_3, q102_4⟩ := q102
        (try simp only [Ks96, NBP, NBQ] at q102_1 q102_2 q102_3 q102_4 e102_0 e102_1 e102_2 e102_3 e102_4 e102_5 e102_6 e102_7 e102_8 e102_9 e102_10 e102_11 e102_12 e102_13 e102_14 e102_15 e102_16 e102_17 e102_18 e102_19 e102_20 e102_21 e102_22 e102_23 e102_24 e102_25 e102_26 R102)
        have Ks102 : rR s102 7 = rR σ 7 := by first | assumption | ((try simp only [rR_sF, rR_sA, rR_sT, rR_sL] at e102_0 e102_1 e102_2 e102_3 e102_4 e102_5 e102_6 e102_7 e102_8 e102_9 e102_10 e102_11 e102_12 e102_13 e102_14 e102_15 e102_16 e102_17 e102_18 e102_19 e102_20 e102_21 e102_22 e102_23 e102_24 e102_25 e102_26 R102); omega)
        have zr102 := fz_rng s102
        have zc102 : fz s102 = 0 → fz s96 = 0 := fun hf => by omega
        have A102 : Im (fz s102 = 0) (RG σ s102 (rR σ 7) 0) := fun hf => RG.trk hp_2 (A96 (zc102 hf)) R102 (Or.inr (Or.inl rfl))
        have r89u10 : Im (fz s102 = 0) _ := fun hf => NR.gk (r89u7 (zc102 hf)) (GK.up (g := g89) (N := rF s96 (rR σ 7) 7) (N' := rF s102 (rR σ 7) 7) (c := 0) (by first | assumption | omega | (simp only [rF_sT, rF_sA]; omega)))
        have Ku11 : Im (fz s102 = 0) (GK g g89 (rF σ (rR σ 7) 7) (rF s102 (rR σ 7) 7) 0) := fun hf => GK.trans (Ku8 (zc102 hf)) (GK.up (N := rF s96 (rR σ 7) 7) (N' := rF s102 (rR σ 7) 7) (c := 0) (by first | assumption | omega | (simp only [rF_sT, rF_sA]; omega))) (Or.inr (Or.inl rfl))
        have Gu12 : Im (fz s102 = 0) (GS s102 (rR σ 7) g89) := fun hf => GS.mv hp_2 (Gu9 (zc102 hf)) R102 (by first | assumption | omega | (simp only [rF_sT, rF_sA]; omega)) (by first | (exact Int.le_of_eq (Eq.symm (by assumption))) | omega | (simp only [rF_sT, rF_sA]; omega))
        have rNMp_102 := e102_0 rNMp_96; clear e102_0
        have TPRp_102 := e102_1 TPRp_96; clear e102_1
        have WNp_102 := e102_2 WNp_96; clear e102_2
        have PNp_102 := e102_3 PNp_96; clear e102_3
        have CCp_102 := e102_4 CCp_96; clear e102_4
        refine ⟨(by (try simp only [pre_X14_node_t, Ks102]); (all_goals (repeat' (first | with_reducible intro _ | with_reducible apply And.intro | with_reducible refine Exists.intro g89 ?_ | with_reducible refine Im.and ?_ ?_))); all_goals (first | assumption | trivial | ((with_reducible refine Im.i fun hf_ => ?_); first | exact (A102 hf_) | exact (Gu12 hf_) | exact (Ku11 hf_) | exact (r89u10 hf_).cst | exact ok1.i | (exact LI.z (fun h => absurd h (by decide))) | (exact absurd hf_ (by omega)) | omega) | (unfold NBP; (try simp only [Ks102]); omega) | (unfold NBQ; (try simp only [Ks102]); omega) | omega | (have zz_ := fz_z (by assumption); omega) | (split <;> omega) | done)), ?_⟩
        intro v111 s111 hv111 Ws111 e111_0 e111_1 e111_2 e111_3 e111_4 e111_5 e111_6 e111_7 e111_8 e111_9 e111_10 e111_11 e111_12 e111_13 e111_14 e111_15 e111_16 e111_17 e111_18 e111_19 e111_20 e111_21 e111_22 e111_23 e111_24 e111_25 e111_26 e111_27 q111
        unfold rng at hv111
        unfold post_X14_node_t at q111
        obtain ⟨q111_1, q111_2, q111_3, q111_4, q111_5, q111_6, q111_7, q111_8, q111_9, q111_10⟩ := q111
        (try simp only [Ks102, NBP, NBQ] at q111_1 q111_2 q111_3 q111_4 q111_5 q111_6 q111_7 q111_8 q111_9 q111_10 e111_0 e111_1 e111_2 e111_3 e111_4 e111_5 e111_6 e111_7 e111_8 e111_9 e111_10 e111_11 e111_12 e111_13 e111_14 e111_15 e111_16 e111_17 e111_18 e111_19 e111_20 e111_21 e111_22 e111_23 e111_24 e111_25 e111_26 e111_27)
        have Ks111 : rR s111 7 = rR σ 7 := by first | assumption | ((try simp only [rR_sF, rR_sA, rR_sT, rR_sL] at e111_0 e111_1 e111_2 e111_3 e111_4 e111_5 e111_6 e111_7 e111_8 e111_9 e111_10 e111_11 e111_12 e111_13 e111_14 e111_15 e111_16 e111_17 e111_18 e111_19 e111_20 e111_21 e111_22 e111_23 e111_24 e111_25 e111_26 e111_27); omega)
        have zr111 := fz_rng s111
        have zc111 : fz s111 = 0 → fz s102 = 0 := fun hf => by omega
        have A111 : Im (fz s111 = 0) (RG σ s111 (rR σ 7) 0) := fun hf => RG.trk hp_2 (A102 (zc111 hf)) q111_3 (Or.inr (Or.inl rfl))
        obtain ⟨g111, X111⟩ := EV_46 (P := fz s111 = 0) ((rF s1 0 29) + 1) (rF s89 0 31) hp_2 (fun hf => Gu12 (zc111 hf)) (fun hf => r89u10 (zc111 hf)) (fun _ h => h) (fun hf => q111_3) q111_1 q111_2 q111_4 q111_5 q111_6 q111_9 (fun hf => by (try simp only [rF_sT, rF_sA]); (repeat' (with_reducible apply And.intro)) <;> first | trivial | omega)
        have Ku13 : Im (fz s111 = 0) (GK g g111 (rF σ (rR σ 7) 7) (rF s111 (rR σ 7) 7) 0) := fun hf => GK.kv (Ku11 (zc111 hf)) (X111 hf).2.1 (by omega)
        have Gu14 : Im (fz s111 = 0) _ := fun hf => (X111 hf).1
        have O111 : Im (fz s111 = 0) _ := fun hf => (X111 hf).2.2.1
        have L111_1 : Im (fz s111 = 0) _ := fun hf => (X111 hf).2.2.2.1
        have L111_2 : Im (fz s111 = 0) (LI s111 (rR σ 7) g111 v111 2 46 0) := fun hf => LI.z (fun h => (X111 hf).2.2.2.2.2)
        have rNMp_111 := e111_0 rNMp_102; clear e111_0
        have TPRp_111 := e111_1 TPRp_102; clear e111_1
        have WNp_111 := e111_2 WNp_102; clear e111_2
        have CCp_111 := e111_3 CCp_102; clear e111_3
        refine ⟨g111, ?_⟩
        refine ⟨46, ?_⟩
        refine ⟨(by (try simp only [pre_X14_readArgs, Ks111]); (all_goals (repeat' (first | with_reducible intro _ | with_reducible apply And.intro | with_reducible refine Exists.intro g111 ?_ | with_reducible refine Im.and ?_ ?_))); all_goals (first | assumption | trivial | ((with_reducible refine Im.i fun hf_ => ?_); first | exact (A111 hf_) | exact (Gu14 hf_) | exact (Ku13 hf_) | exact (O111 hf_).cst | exact (L111_1 hf_) | exact (L111_2 hf_) | exact ok1.i | (exact LI.z (fun h => absurd h (by decide))) | (exact absurd hf_ (by omega)) | omega) | (unfold NBP; (try simp only [Ks111]); omega) | (unfold NBQ; (try simp only [Ks111]); omega) | omega | (have zz_ := fz_z (by assumption); omega) | (split <;> omega) | done)), ?_⟩
        refine ⟨(by (try simp only [rk_X14_readArgs, Ks111]); (all_goals (repeat' (first | with_reducible intro _ | with_reducible apply And.intro | with_reducible refine Exists.intro g111 ?_ | with_reducible refine Im.and ?_ ?_))); all_goals (first | assumption | trivial | ((with_reducible refine Im.i fun hf_ => ?_); first | exact (A111 hf_) | exact (Gu14 hf_) | exact (Ku13 hf_) | exact (O111 hf_).cst | exact (L111_1 hf_) | exact (L111_2 hf_) | exact ok1.i | (exact LI.z (fun h => absurd h (by decide))) | (exact absurd hf_ (by omega)) | omega) | (unfold NBP; (try simp only [Ks111]); omega) | (unfold NBQ; (try simp only [Ks111]); omega) | omega | (have zz_ := fz_z (by assumption); omega) | (split <;> omega) | done)), ?_⟩
        intro s117 Ws117 e117_0 e117_1 e117_2 e117_3 e117_4 e117_5 e117_6 e117_7 e117_8 e117_9 q117
        unfold post_X14_readArgs at q117
        obtain ⟨q117_1, q117_2, q117_3, q117_4, q117_5, q117_6⟩ := q117
        (try simp only [Ks111, NBP, NBQ] at q117_1 q117_2 q117_3 q117_4 q117_5 q117_6 e117_0 e117_1 e117_2 e117_3 e117_4 e117_5 e117_6 e117_7 e117_8 e117_9)
        have Ks117 : rR s117 7 = rR σ 7 := by first | assumption | ((try simp only [rR_sF, rR_sA, rR_sT, rR_sL] at e117_0 e117_1 e117_2 e117_3 e117_4 e117_5 e117_6 e117_7 e117_8 e117_9); omega)
        have zr117 := fz_rng s117
        have zc117 : fz s117 = 0 → fz s111 = 0 := fun hf => by omega
        have A117 : Im (fz s117 = 0) (RG σ s117 (rR σ 7) 0) := fun hf => RG.trk hp_2 (A111 (zc117 hf)) (q117_5 (by omega)) (by omega)
        obtain ⟨g117, X117⟩ := q117_6
        have Ku15 : Im (fz s117 = 0) (GK g g117 (rF σ (rR σ 7) 7) (rF s117 (rR σ 7) 7) 0) := fun hf => GK.trans (Ku13 (zc117 hf)) ((X117 hf).2.1) (by omega)
        have Gu16 : Im (fz s117 = 0) (GS s117 (rR σ 7) g117) := fun hf => (X117 hf).1
        have O117 : Im (fz s117 = 0) _ := fun hf => OP.lo (O111 (zc117 hf)) ((X117 hf).2.1) ((X117 hf).2.2.1)
        have TPRp_117 := e117_0 TPRp_111; clear e117_0
        have CCp_117 := e117_1 CCp_111; clear e117_1
        obtain ⟨gu17, Xu18⟩ := EC_46 (P := fz s117 = 0) (rF s117 0 29) Gu16 O117 (fun hf => by omega)
        have O117u19 : Im (fz s117 = 0) _ := fun hf => (Xu18 hf).2.1
        have Ku20 : Im (fz s117 = 0) (GK g gu17 (rF σ (rR σ 7) 7) (rF s117 (rR σ 7) 7) 0) := fun hf => GK.kc (Ku15 hf) (Xu18 hf).2.2 (by omega)
        have Gu21 : Im (fz s117 = 0) _ := fun hf => (Xu18 hf).1
        exact (by (try simp only [post_X14_readApplied, Ks117]); (all_goals (repeat' (first | with_reducible intro _ | with_reducible apply And.intro | with_reducible refine Exists.intro gu17 ?_ | with_reducible refine Im.and ?_ ?_))); all_goals (first | assumption | trivial | ((with_reducible refine Im.i fun hf_ => ?_); first | exact (A117 hf_) | exact (Gu21 hf_) | exact (Ku20 hf_) | exact (O117u19 hf_).cst | exact ok1.i | (exact LI.z (fun h => absurd h (by decide))) | (exact absurd hf_ (by omega)) | omega) | (unfold NBP; (try simp only [Ks117]); omega) | (unfold NBQ; (try simp only [Ks117]); omega) | omega | (have zz_ := fz_z (by assumption); omega) | (split <;> omega) | done))
    · intro hr_; unfold rng at hr_
      refine ⟨(by (try simp only [pre_X14_check_t, Ks1]); (all_goals (repeat' (first | with_reducible intro _ | with_reducible apply And.intro | with_reducible refine Exists.intro g ?_ | with_reducible refine Im.and ?_ ?_))); all_goals (first | assumption | trivial | ((with_reducible refine Im.i fun hf_ => ?_); first | exact (A1 hf_) | exact (Gu2 hf_) | exact (Ku1 hf_) | exact ok1.i | (exact LI.z (fun h => absurd h (by decide))) | (exact absurd hf_ (by omega)) | omega) | (unfold NBP; (try simp only [Ks1]); omega) | (unfold NBQ; (try simp only [Ks1]); omega) | omega | (have zz_ := fz_z (by assumption); omega) | (split <;> omega) | done)), ?_⟩
      intro s41 Ws41 e41_0 e41_1 e41_2 e41_3 e41_4 e41_5 e41_6 e41_7 e41_8 e41_9 e41_10 e41_11 e41_12 e41_13 e41_14 e41_15 e41_16 e41_17 e41_18 e41_19 e41_20 e41_21 e41_22 e41_23 e41_24 e41_25 q41
      unfold post_X14_check_t at q41
      obtain ⟨q41_1, q41_2, q41_3, q41_4, q41_5, q41_6⟩ := q41
      (try simp only [Ks1, NBP, NBQ] at q41_1 q41_2 q41_3 q41_4 q41_5 q41_6 e41_0 e41_1 e41_2 e41_3 e41_4 e41_5 e41_6 e41_7 e41_8 e41_9 e41_10 e41_11 e41_12 e41_13 e41_14 e41_15 e41_16 e41_17 e41_18 e41_19 e41_20 e41_21 e41_22 e41_23 e41_24 e41_25)
      have Ks41 : rR s41 7 = rR σ 7 := by first | assumption | ((try simp only [rR_sF, rR_sA, rR_sT, rR_sL] at e41_0 e41_1 e41_2 e41_3 e41_4 e41_5 e41_6 e41_7 e41_8 e41_9 e41_10 e41_11 e41_12 e41_13 e41_14 e41_15 e41_16 e41_17 e41_18 e41_19 e41_20 e41_21 e41_22 e41_23 e41_24 e41_25); omega)
      have zr41 := fz_rng s41
      have zc41 : fz s41 = 0 → fz s1 = 0 := fun hf => by omega
      have A41 : Im (fz s41 = 0) (RG σ s41 (rR σ 7) 0) := fun hf => RG.trk hp_2 (A1 (zc41 hf)) q41_2 (Or.inr (Or.inl rfl))
      have Ku22 : Im (fz s41 = 0) (GK g g (rF σ (rR σ 7) 7) (rF s41 (rR σ 7) 7) 0) := fun hf => GK.trans (Ku1 (zc41 hf)) (GK.up (N := rF s1 (rR σ 7) 7) (N' := rF s41 (rR σ 7) 7) (c := 0) (by first | assumption | omega | (simp only [rF_sT, rF_sA]; omega))) (Or.inr (Or.inl rfl))
      have Gu23 : Im (fz s41 = 0) (GS s41 (rR σ 7) g) := fun hf => GS.mv hp_2 (Gu2 (zc41 hf)) q41_2 (by first | assumption | omega | (simp only [rF_sT, rF_sA]; omega)) (by first | (exact Int.le_of_eq (Eq.symm (by assumption))) | omega | (simp only [rF_sT, rF_sA]; omega))
      have rNMp_41 := e41_0 rNMp_1; clear e41_0
      have TPRp_41 := e41_1 TPRp_1; clear e41_1
      have WNp_41 := e41_2 WNp_1; clear e41_2
      have PNp_41 := e41_3 PNp_1; clear e41_3
      have CCp_41 := e41_4 CCp_1; clear e41_4
      refine ⟨g, ?_⟩
      refine ⟨(by (try simp only [pre_X14_readSub, Ks41]); (all_goals (repeat' (first | with_reducible intro _ | with_reducible apply And.intro | with_reducible refine Exists.intro g ?_ | with_reducible refine Im.and ?_ ?_))); all_goals (first | assumption | trivial | ((with_reducible refine Im.i fun hf_ => ?_); first | exact (A41 hf_) | exact (Gu23 hf_) | exact (Ku22 hf_) | exact ok1.i | (exact LI.z (fun h => absurd h (by decide))) | (exact absurd hf_ (by omega)) | omega) | (unfold NBP; (try simp only [Ks41]); omega) | (unfold NBQ; (try simp only [Ks41]); omega) | omega | (have zz_ := fz_z (by assumption); omega) | (split <;> omega) | done)), ?_⟩
      refine ⟨(by (try simp only [rk_X14_readSub, Ks41]); (all_goals (repeat' (first | with_reducible intro _ | with_reducible apply And.intro | with_reducible refine Exists.intro g ?_ | with_reducible refine Im.and ?_ ?_))); all_goals (first | assumption | trivial | ((with_reducible refine Im.i fun hf_ => ?_); first | exact (A41 hf_) | exact (Gu23 hf_) | exact (Ku22 hf_) | exact ok1.i | (exact LI.z (fun h => absurd h (by decide))) | (exact absurd hf_ (by omega)) | omega) | (unfold NBP; (try simp only [Ks41]); omega) | (unfold NBQ; (try simp only [Ks41]); omega) | omega | (have zz_ := fz_z (by assumption); omega) | (split <;> omega) | done)), ?_⟩
      intro v45 s45 hv45 Ws45 e45_0 e45_1 e45_2 e45_3 e45_4 e45_5 e45_6 e45_7 e45_8 e45_9 q45
      unfold rng at hv45
      unfold post_X14_readSub at q45
      obtain ⟨q45_1, q45_2, q45_3, q45_4, q45_5, q45_6, q45_7, q45_8, q45_9, q45_10⟩ := q45
      (try simp only [Ks41, NBP, NBQ] at q45_1 q45_2 q45_3 q45_4 q45_5 q45_6 q45_7 q45_8 q45_9 q45_10 e45_0 e45_1 e45_2 e45_3 e45_4 e45_5 e45_6 e45_7 e45_8 e45_9)
      have Ks45 : rR s45 7 = rR σ 7 := by first | assumption | ((try simp only [rR_sF, rR_sA, rR_sT, rR_sL] at e45_0 e45_1 e45_2 e45_3 e45_4 e45_5 e45_6 e45_7 e45_8 e45_9); omega)
      have zr45 := fz_rng s45
      have zc45 : fz s45 = 0 → fz s41 = 0 := fun hf => by omega
      have A45 : Im (fz s45 = 0) (RG σ s45 (rR σ 7) 0) := fun hf => RG.trk hp_2 (A41 (zc45 hf)) (q45_9 (by omega)) (Or.inr (Or.inl rfl))
      obtain ⟨g45, X45⟩ := q45_10
      have Ku24 : Im (fz s45 = 0) (GK g g45 (rF σ (rR σ 7) 7) (rF s45 (rR σ 7) 7) 0) := fun hf => GK.trans (Ku22 (zc45 hf)) ((X45 hf).2.1) (Or.inr (Or.inl rfl))
      have Gu25 : Im (fz s45 = 0) (GS s45 (rR σ 7) g45) := fun hf => (X45 hf).1
      have r45 : Im (fz s45 = 0) _ := fun hf => (X45 hf).2.2.1
      have TPRp_45 := e45_0 TPRp_41; clear e45_0
      have CCp_45 := e45_1 CCp_41; clear e45_1
      refine ⟨(by (try simp only [Ks45]); (all_goals (repeat' (first | with_reducible intro _ | with_reducible apply And.intro | with_reducible refine Exists.intro g45 ?_ | with_reducible refine Im.and ?_ ?_))); all_goals (first | assumption | trivial | ((with_reducible refine Im.i fun hf_ => ?_); first | exact (A45 hf_) | exact (Gu25 hf_) | exact (Ku24 hf_) | exact (r45 hf_).cst | exact ((r45 hf_).so so_10_2).cst | exact ok1.i | (exact LI.z (fun h => absurd h (by decide))) | (exact absurd hf_ (by omega)) | omega) | (unfold NBP; (try simp only [Ks45]); omega) | (unfold NBQ; (try simp only [Ks45]); omega) | omega | (have zz_ := fz_z (by assumption); omega) | (split <;> omega) | done)), ?_⟩
      have A58 : Im (fz s45 = 0) (RG σ (sA s45 (1000 * ((rR σ 7) + 1) + 34) (rF s1 (rR σ 7) 38) v45) (rR σ 7) 0) := fun hf => RG.c34 (j := (rF s1 (rR σ 7) 38)) (x := v45) hp_2 (A45 hf) (by omega) ((RG.ck hp_2 (q45_9 (by omega)) (by omega)).trans q41_4)
      have r45u26 : Im (fz s45 = 0) _ := fun hf => NR.g34 (i := (rF s1 (rR σ 7) 38)) (z := v45) (r45 hf)
      have Gu27 : Im (fz s45 = 0) _ := fun hf => GS.g34 (i := (rF s1 (rR σ 7) 38)) (x := v45) (Gu25 hf)
      refine ⟨(by (try simp only [pre_X14_node_t, reduceIte, and_true, true_and, and_false, false_and, and_self, Nat.reduceEqDiff, fz_sA, rF_sA, rA_sA, rR_sA, rNMp_g34, PNp_g34, WNp_g34 hp_2, tr_g34, TPRp_gA34, VMp_gA34, KYp_gA34, PPp_gA34, WFp_gA34, CCp_gA34, rk_n0 hp_2, Ks45]); (all_goals (repeat' (first | with_reducible intro _ | with_reducible apply And.intro | with_reducible refine Exists.intro g45 ?_ | with_reducible refine Im.and ?_ ?_))); all_goals (first | assumption | trivial | ((with_reducible refine Im.i fun hf_ => ?_); first | exact (A58 hf_) | exact (Gu27 hf_) | exact (Ku24 hf_) | exact (r45u26 hf_).cst | exact ((r45u26 hf_).so so_10_2).cst | exact ok1.i | (exact LI.z (fun h => absurd h (by decide))) | (exact absurd hf_ (by omega)) | omega) | (unfold NBP; (try simp only [reduceIte, and_true, true_and, and_false, false_and, and_self, Nat.reduceEqDiff, fz_sA, rF_sA, rA_sA, rR_sA, rNMp_g34, PNp_g34, WNp_g34 hp_2, tr_g34, TPRp_gA34, VMp_gA34, KYp_gA34, PPp_gA34, WFp_gA34, CCp_gA34, rk_n0 hp_2, Ks45]); omega) | (unfold NBQ; (try simp only [reduceIte, and_true, true_and, and_false, false_and, and_self, Nat.reduceEqDiff, fz_sA, rF_sA, rA_sA, rR_sA, rNMp_g34, PNp_g34, WNp_g34 hp_2, tr_g34, TPRp_gA34, VMp_gA34, KYp_gA34, PPp_gA34, WFp_gA34, CCp_gA34, rk_n0 hp_2, Ks45]); omega) | omega | (have zz_ := fz_z (by assumption); omega) | (split <;> omega) | done)), ?_⟩
      intro v65 s65 hv65 Ws65 e65_0 e65_1 e65_2 e65_3 e65_4 e65_5 e65_6 e65_7 e65_8 e65_9 e65_10 e65_11 e65_12 e65_13 e65_14 e65_15 e65_16 e65_17 e65_18 e65_19 e65_20 e65_21 e65_22 e65_23 e65_24 e65_25 e65_26 e65_27 q65
      unfold rng at hv65
      unfold post_X14_node_t at q65
      obtain ⟨q65_1, q65_2, q65_3, q65_4, q65_5, q65_6, q65_7, q65_8, q65_9, q65_10⟩ := q65
      (try simp only [reduceIte, and_true, true_and, and_false, false_and, and_self, Nat.reduceEqDiff, fz_sA, rF_sA, rA_sA, rR_sA, rNMp_g34, PNp_g34, WNp_g34 hp_2, tr_g34, TPRp_gA34, VMp_gA34, KYp_gA34, PPp_gA34, WFp_gA34, CCp_gA34, rk_n0 hp_2, Ks45, NBP, NBQ] at q65_1 q65_2 q65_3 q65_4 q65_5 q65_6 q65_7 q65_8 q65_9 q65_10 e65_0 e65_1 e65_2 e65_3 e65_4 e65_5 e65_6 e65_7 e65_8 e65_9 e65_10 e65_11 e65_12 e65_13 e65_14 e65_15 e65_16 e65_17 e65_18 e65_19 e65_20 e65_21 e65_22 e65_23 e65_24 e65_25 e65_26 e65_27)
      have Ks65 : rR s65 7 = rR σ 7 := by first | assumption | ((try simp only [rR_sF, rR_sA, rR_sT, rR_sL] at e65_0 e65_1 e65_2 e65_3 e65_4 e65_5 e65_6 e65_7 e65_8 e65_9 e65_10 e65_11 e65_12 e65_13 e65_14 e65_15 e65_16 e65_17 e65_18 e65_19 e65_20 e65_21 e65_22 e65_23 e65_24 e65_25 e65_26 e65_27); omega)
      have zr65 := fz_rng s65
      have zc65 : fz s65 = 0 → fz s45 = 0 := fun hf => by omega
      have A65 : Im (fz s65 = 0) (RG σ s65 (rR σ 7) 0) := fun hf => RG.trk hp_2 (A58 (zc65 hf)) q65_3 (Or.inr (Or.inl rfl))
      obtain ⟨g65, X65⟩ := EV_47 (P := fz s65 = 0) (rF s1 0 29) (rF s45 0 31) hp_2 (fun hf => Gu27 (zc65 hf)) (fun hf => r45u26 (zc65 hf)) (fun _ h => h) (fun hf => q65_3) q65_1 q65_2 q65_4 q65_5 q65_6 q65_9 (fun hf => by (try simp only [rF_sT, rF_sA]); (repeat' (with_reducible apply And.intro)) <;> first | trivial | omega)
      have Ku28 : Im (fz s65 = 0) (GK g g65 (rF σ (rR σ 7) 7) (rF s65 (rR σ 7) 7) 0) := fun hf => GK.kv (Ku24 (zc65 hf)) (X65 hf).2.1 (by omega)
      have Gu29 : Im (fz s65 = 0) _ := fun hf => (X65 hf).1
      have O65 : Im (fz s65 = 0) _ := fun hf => (X65 hf).2.2.1
      have L65_1 : Im (fz s65 = 0) _ := fun hf => (X65 hf).2.2.2.1
      have rNMp_65 := e65_0 q45_2; clear e65_0
      have TPRp_65 := e65_1 TPRp_45; clear e65_1
      have WNp_65 := e65_2 q45_3; clear e65_2
      have CCp_65 := e65_3 CCp_45; clear e65_3
      obtain ⟨gu30, Xu31⟩ := EC_47 (P := fz s65 = 0) (rF s45 0 29) Gu29 O65 (fun hf => by omega)
      have O65u32 : Im (fz s65 = 0) _ := fun hf => (Xu31 hf).2.1
      have Ku33 : Im (fz s65 = 0) (GK g gu30 (rF σ (rR σ 7) 7) (rF s65 (rR σ 7) 7) 0) := fun hf => GK.kc (Ku28 hf) (Xu31 hf).2.2 (by omega)
      have Gu34 : Im (fz s65 = 0) _ := fun hf => (Xu31 hf).1
      exact (by (try simp only [post_X14_readApplied, Ks65]); (all_goals (repeat' (first | with_reducible intro _ | with_reducible apply And.intro | with_reducible refine Exists.intro gu30 ?_ | with_reducible refine Im.and ?_ ?_))); all_goals (first | assumption | trivial | ((with_reducible refine Im.i fun hf_ => ?_); first | exact (A65 hf_) | exact (Gu34 hf_) | exact (Ku33 hf_) | exact (O65u32 hf_).cst | exact ok1.i | (exact LI.z (fun h => absurd h (by decide))) | (exact absurd hf_ (by omega)) | omega) | (unfold NBP; (try simp only [Ks65]); omega) | (unfold NBQ; (try simp only [Ks65]); omega) | omega | (have zz_ := fz_z (by assumption); omega) | (split <;> omega) | done))
  · have z8 := fz_n c8
    exact (by (try simp only [post_X14_readApplied, Ks1]); (all_goals (repeat' (first | with_reducible intro _ | with_reducible apply And.intro | with_reducible refine Exists.intro g ?_ | with_reducible refine Im.and ?_ ?_))); all_goals (first | assumption | trivial | ((with_reducible refine Im.i fun hf_ => ?_); first | exact (A1 hf_) | exact (Gu2 hf_) | exact (Ku1 hf_) | exact ok1.i | (exact LI.z (fun h => absurd h (by decide))) | (exact absurd hf_ (by omega)) | omega) | (unfold NBP; (try simp only [Ks1]); omega) | (unfold NBQ; (try simp only [Ks1]); omega) | omega | (have zz_ := fz_z (by assumption); omega) | (split <;> omega) | done))
