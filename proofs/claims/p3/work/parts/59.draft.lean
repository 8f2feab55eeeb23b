set_option maxHeartbeats 4000000 in
theorem vX14_readApplied (n : Nat) (σ : rS) (gg : Nat) (g : Nat → Int → Int) (hwf : rWF σ) (hp : pre_X14_readApplied σ gg g) (hr : rk_X14_readApplied σ gg g ≤ n + 1) : VC_X14_readApplied n σ gg g (post_X14_readApplied σ gg g) := by
  unfold pre_X14_readApplied at hp
  obtain ⟨hp_1, hp_2, hp_3, hp_4, hp_5, hp_6, hp_7, hp_8⟩ := hp
  subst hp_1
  unfold rk_X14_readApplied at hr
  have hN := hp_4
  unfold NBP at hN
  have hC := hp_3
  unfold CCp at hC
  obtain ⟨hC1, hC⟩ := hC
  have zr0 := fz_rng σ
  have hr2 : fz σ = 0 → 16 * (21 - rF σ 0 31).toNat + 7 ≤ n + 1 := fun h => by rw [if_pos h] at hr; exact hr
  have hr3 : 7 ≤ n + 1 := by have := hr; split at this <;> omega
  clear hr
  unfold VC_X14_readApplied
  refine ⟨(by (all_goals (repeat' (first | with_reducible intro _ | with_reducible apply And.intro))); all_goals (first | assumption | trivial | (unfold NBP; omega) | (unfold NBQ; omega) | omega | (have zz_ := fz_z (by assumption); omega) | (split <;> omega) | done)), ?_⟩
  refine ⟨(by (try simp only [pre_X14_blanks]); (all_goals (repeat' (first | with_reducible intro _ | with_reducible apply And.intro | with_reducible refine Exists.intro g ?_ | with_reducible refine Im.and ?_ ?_))); all_goals (first | assumption | trivial | (unfold NBP; omega) | (unfold NBQ; omega) | omega | (exact fun hf_ => ((fun _ => RG.rf) (by omega))) | (exact fun hf_ => hp_8 (by omega)) | (exact fun hf_ => (fun _ => GK.rf) (by omega)) | (exact fun _ => ok1.i) | (exact fun hf_ => LI.z (fun h => absurd h (by decide))) | (exact fun hf_ => absurd hf_ (by omega)) | (exact fun hf_ => by omega) | (have zz_ := fz_z (by assumption); omega) | (split <;> omega) | done)), ?_⟩
  intro s1 Ws1 e1_0 e1_1 e1_2 e1_3 e1_4 e1_5 e1_6 e1_7 e1_8 e1_9 e1_10 e1_11 e1_12 e1_13 e1_14 e1_15 e1_16 e1_17 e1_18 e1_19 e1_20 e1_21 e1_22 e1_23 e1_24 e1_25 R1 q1
  have q1 := dig_blanks q1 (by omega)
  obtain ⟨q1_1, q1_2⟩ := q1
  (try simp only [NBP, NBQ] at q1_1 q1_2 e1_0 e1_1 e1_2 e1_3 e1_4 e1_5 e1_6 e1_7 e1_8 e1_9 e1_10 e1_11 e1_12 e1_13 e1_14 e1_15 e1_16 e1_17 e1_18 e1_19 e1_20 e1_21 e1_22 e1_23 e1_24 e1_25 R1)
  have Ks1 : rR s1 7 = rR σ 7 := by (try simp only [rR_sF, rR_sA, rR_sT, rR_sL] at e1_0 e1_1 e1_2 e1_3 e1_4 e1_5 e1_6 e1_7 e1_8 e1_9 e1_10 e1_11 e1_12 e1_13 e1_14 e1_15 e1_16 e1_17 e1_18 e1_19 e1_20 e1_21 e1_22 e1_23 e1_24 e1_25 R1); omega
  have zr1 := fz_rng s1
  have A1 : Im (fz s1 = 0) (RG σ s1 (rR σ 7) 0) := fun hf => RG.trk hp_2 ((fun _ => RG.rf) (by omega)) R1 (by omega)
  have Ku1 : Im (fz s1 = 0) (GK g g (rF σ (rR σ 7) 7) (rF s1 (rR σ 7) 7) 0) := fun hf => GK.trans ((fun _ => GK.rf) (by omega)) (GK.up (N := rF σ (rR σ 7) 7) (N' := rF s1 (rR σ 7) 7) (c := 0) (by first | omega | (simp only [rF_sT, rF_sA]; omega))) (by omega)
  have Gu2 : Im (fz s1 = 0) (GS s1 (rR σ 7) g) := fun hf => GS.mv hp_2 (hp_8 (by omega)) R1
  have rNMp_1 := e1_0 hp_5; clear e1_0
  have TPRp_1 := e1_1 hC1; clear e1_1
  have WNp_1 := e1_2 hp_6; clear e1_2
  have PNp_1 := e1_3 hp_7; clear e1_3
  have CCp_1 := e1_4 hp_3; clear e1_4
  intro hr_; unfold rng at hr_
  refine ⟨fun c8 => ?_, fun c8 => ?_⟩
  · have z8 := fz_z c8
    refine ⟨(by (try simp only [pre_X14_place, Ks1]); (all_goals (repeat' (first | with_reducible intro _ | with_reducible apply And.intro | with_reducible refine Exists.intro g ?_ | with_reducible refine Im.and ?_ ?_))); all_goals (first | assumption | trivial | (unfold NBP; (try simp only [Ks1]); omega) | (unfold NBQ; (try simp only [Ks1]); omega) | omega | (exact fun hf_ => (A1 (by omega))) | (exact fun hf_ => Gu2 (by omega)) | (exact fun hf_ => Ku1 (by omega)) | (exact fun _ => ok1.i) | (exact fun hf_ => LI.z (fun h => absurd h (by decide))) | (exact fun hf_ => absurd hf_ (by omega)) | (exact fun hf_ => by omega) | (have zz_ := fz_z (by assumption); omega) | (split <;> omega) | done)), ?_⟩
    intro v14 hv14 q14
    unfold rng at hv14
    unfold post_X14_place at q14
    obtain ⟨q14_1, q14_2⟩ := q14
    (try simp only [Ks1, NBP, NBQ] at q14_1 q14_2)
    refine ⟨(by (try simp only [pre_X14_here, Ks1]); (all_goals (repeat' (first | with_reducible intro _ | with_reducible apply And.intro | with_reducible refine Exists.intro g ?_ | with_reducible refine Im.and ?_ ?_))); all_goals (first | assumption | trivial | (unfold NBP; (try simp only [Ks1]); omega) | (unfold NBQ; (try simp only [Ks1]); omega) | omega | (exact fun hf_ => (A1 (by omega))) | (exact fun hf_ => Gu2 (by omega)) | (exact fun hf_ => Ku1 (by omega)) | (exact fun _ => ok1.i) | (exact fun hf_ => LI.z (fun h => absurd h (by decide))) | (exact fun hf_ => absurd hf_ (by omega)) | (exact fun hf_ => by omega) | (have zz_ := fz_z (by assumption); omega) | (split <;> omega) | done)), ?_⟩
    intro v19 hv19 q19
    unfold rng at hv19
    unfold post_X14_here at q19
    obtain ⟨q19_1, q19_2⟩ := q19
    (try simp only [Ks1, NBP, NBQ] at q19_1 q19_2)
    refine ⟨fun c24 => ?_, fun c24 => ?_⟩
    · refine ⟨(by (try simp only [pre_X14_here, Ks1]); (all_goals (repeat' (first | with_reducible intro _ | with_reducible apply And.intro | with_reducible refine Exists.intro g ?_ | with_reducible refine Im.and ?_ ?_))); all_goals (first | assumption | trivial | (unfold NBP; (try simp only [Ks1]); omega) | (unfold NBQ; (try simp only [Ks1]); omega) | omega | (exact fun hf_ => (A1 (by omega))) | (exact fun hf_ => Gu2 (by omega)) | (exact fun hf_ => Ku1 (by omega)) | (exact fun _ => ok1.i) | (exact fun hf_ => LI.z (fun h => absurd h (by decide))) | (exact fun hf_ => absurd hf_ (by omega)) | (exact fun hf_ => by omega) | (have zz_ := fz_z (by assumption); omega) | (split <;> omega) | done)), ?_⟩
      intro v70 hv70 q70
      unfold rng at hv70
      unfold post_X14_here at q70
      obtain ⟨q70_1, q70_2⟩ := q70
      (try simp only [Ks1, NBP, NBQ] at q70_1 q70_2)
      refine ⟨fun c75 => ?_, fun c75 => ?_⟩
      · refine ⟨(by (try simp only [pre_X14_isWord_t, Ks1]); (all_goals (repeat' (first | with_reducible intro _ | with_reducible apply And.intro | with_reducible refine Exists.intro g ?_ | with_reducible refine Im.and ?_ ?_))); all_goals (first | assumption | trivial | (unfold NBP; (try simp only [Ks1]); omega) | (unfold NBQ; (try simp only [Ks1]); omega) | omega | (exact fun hf_ => (A1 (by omega))) | (exact fun hf_ => Gu2 (by omega)) | (exact fun hf_ => Ku1 (by omega)) | (exact fun _ => ok1.i) | (exact fun hf_ => LI.z (fun h => absurd h (by decide))) | (exact fun hf_ => absurd hf_ (by omega)) | (exact fun hf_ => by omega) | (have zz_ := fz_z (by assumption); omega) | (split <;> omega) | done)), ?_⟩
        intro v129 hv129 q129
        unfold rng at hv129
        unfold post_X14_isWord_t at q129
        obtain ⟨q129_1, q129_2, q129_3⟩ := q129
        (try simp only [Ks1, NBP, NBQ] at q129_1 q129_2 q129_3)
        refine ⟨g, ?_⟩
        refine ⟨45, ?_⟩
        refine ⟨(by (try simp only [pre_X14_readCall, Ks1]); (all_goals (repeat' (first | with_reducible intro _ | with_reducible apply And.intro | with_reducible refine Exists.intro g ?_ | with_reducible refine Im.and ?_ ?_))); all_goals (first | assumption | trivial | (unfold NBP; (try simp only [Ks1]); omega) | (unfold NBQ; (try simp only [Ks1]); omega) | omega | (exact fun hf_ => (A1 (by omega))) | (exact fun hf_ => Gu2 (by omega)) | (exact fun hf_ => Ku1 (by omega)) | (exact fun _ => ok1.i) | (exact fun hf_ => LI.z (fun h => absurd h (by decide))) | (exact fun hf_ => absurd hf_ (by omega)) | (exact fun hf_ => by omega) | (have zz_ := fz_z (by assumption); omega) | (split <;> omega) | done)), ?_⟩
        refine ⟨(by (try simp only [rk_X14_readCall, Ks1]); (all_goals (repeat' (first | with_reducible intro _ | with_reducible apply And.intro | with_reducible refine Exists.intro g ?_ | with_reducible refine Im.and ?_ ?_))); all_goals (first | assumption | trivial | (unfold NBP; (try simp only [Ks1]); omega) | (unfold NBQ; (try simp only [Ks1]); omega) | omega | (exact fun hf_ => (A1 (by omega))) | (exact fun hf_ => Gu2 (by omega)) | (exact fun hf_ => Ku1 (by omega)) | (exact fun _ => ok1.i) | (exact fun hf_ => LI.z (fun h => absurd h (by decide))) | (exact fun hf_ => absurd hf_ (by omega)) | (exact fun hf_ => by omega) | (have zz_ := fz_z (by assumption); omega) | (split <;> omega) | done)), ?_⟩
        intro v132 s132 hv132 Ws132 e132_0 e132_1 e132_2 e132_3 e132_4 e132_5 e132_6 e132_7 e132_8 e132_9 q132
        unfold rng at hv132
        unfold post_X14_readCall at q132
        obtain ⟨q132_1, q132_2, q132_3, q132_4, q132_5, q132_6, q132_7, q132_8, q132_9⟩ := q132
        (try simp only [Ks1, NBP, NBQ] at q132_1 q132_2 q132_3 q132_4 q132_5 q132_6 q132_7 q132_8 q132_9 e132_0 e132_1 e132_2 e132_3 e132_4 e132_5 e132_6 e132_7 e132_8 e132_9)
        have Ks132 : rR s132 7 = rR σ 7 := by (try simp only [rR_sF, rR_sA, rR_sT, rR_sL] at e132_0 e132_1 e132_2 e132_3 e132_4 e132_5 e132_6 e132_7 e132_8 e132_9); omega
        have zr132 := fz_rng s132
        have A132 : Im (fz s132 = 0) (RG σ s132 (rR σ 7) 0) := fun hf => RG.trk hp_2 (A1 (by omega)) (q132_8 (by omega)) (by omega)
        obtain ⟨g132, X132⟩ := q132_9
        have Ku3 : Im (fz s132 = 0) (GK g g132 (rF σ (rR σ 7) 7) (rF s132 (rR σ 7) 7) 0) := fun hf => GK.trans (Ku1 (by omega)) ((X132 hf).2.1) (by omega)
        have Gu4 : Im (fz s132 = 0) (GS s132 (rR σ 7) g132) := fun hf => (X132 hf).1
        have r132 : Im (fz s132 = 0) _ := fun hf => (X132 hf).2.2.1
        have TPRp_132 := e132_0 TPRp_1; clear e132_0
        have CCp_132 := e132_1 CCp_1; clear e132_1
        exact (by (try simp only [post_X14_readApplied, Ks132]); (all_goals (repeat' (first | with_reducible intro _ | with_reducible apply And.intro | with_reducible refine Exists.intro g132 ?_ | with_reducible refine Im.and ?_ ?_))); all_goals (first | assumption | trivial | (unfold NBP; (try simp only [Ks132]); omega) | (unfold NBQ; (try simp only [Ks132]); omega) | omega | (exact fun hf_ => (A132 (by omega))) | (exact fun hf_ => Gu4 (by omega)) | (exact fun hf_ => Ku3 (by omega)) | (exact fun hf_ => (r132 (by omega)).cst) | (exact fun _ => ok1.i) | (exact fun hf_ => LI.z (fun h => absurd h (by decide))) | (exact fun hf_ => absurd hf_ (by omega)) | (exact fun hf_ => by omega) | (have zz_ := fz_z (by assumption); omega) | (split <;> omega) | done))
      · intro hr_; unfold rng at hr_
        refine ⟨(by (try simp only [rng, Ks1]); (all_goals (repeat' (first | with_reducible intro _ | with_reducible apply And.intro | with_reducible refine Exists.intro g ?_ | with_reducible refine Im.and ?_ ?_))); all_goals (first | assumption | trivial | (unfold NBP; (try simp only [Ks1]); omega) | (unfold NBQ; (try simp only [Ks1]); omega) | omega | (exact fun hf_ => (A1 (by omega))) | (exact fun hf_ => Gu2 (by omega)) | (exact fun hf_ => Ku1 (by omega)) | (exact fun _ => ok1.i) | (exact fun hf_ => LI.z (fun h => absurd h (by decide))) | (exact fun hf_ => absurd hf_ (by omega)) | (exact fun hf_ => by omega) | (have zz_ := fz_z (by assumption); omega) | (split <;> omega) | done)), ?_⟩
        refine ⟨g, ?_⟩
        refine ⟨(by (try simp only [pre_X14_readArg, reduceIte, and_true, true_and, and_false, false_and, and_self, Nat.reduceEqDiff, fz_sF29, rF_sF, rA_sF, rR_sF, tr_sF, rNMp_sF, PNp_sF, GS_F29, OP_F29, NR_F29, LI_F29, RG_l29, RG_r29, TPRp_sF29, WNp_sF29, VMp_sF29, KYp_sF29, PPp_sF29, WFp_sF29, CCp_sF29, rk_n0 hp_2, Ks1]); (all_goals (repeat' (first | with_reducible intro _ | with_reducible apply And.intro | with_reducible refine Exists.intro g ?_ | with_reducible refine Im.and ?_ ?_))); all_goals (first | assumption | trivial | (unfold NBP; (try simp only [reduceIte, and_true, true_and, and_false, false_and, and_self, Nat.reduceEqDiff, fz_sF29, rF_sF, rA_sF, rR_sF, tr_sF, rNMp_sF, PNp_sF, GS_F29, OP_F29, NR_F29, LI_F29, RG_l29, RG_r29, TPRp_sF29, WNp_sF29, VMp_sF29, KYp_sF29, PPp_sF29, WFp_sF29, CCp_sF29, rk_n0 hp_2, Ks1]); omega) | (unfold NBQ; (try simp only [reduceIte, and_true, true_and, and_false, false_and, and_self, Nat.reduceEqDiff, fz_sF29, rF_sF, rA_sF, rR_sF, tr_sF, rNMp_sF, PNp_sF, GS_F29, OP_F29, NR_F29, LI_F29, RG_l29, RG_r29, TPRp_sF29, WNp_sF29, VMp_sF29, KYp_sF29, PPp_sF29, WFp_sF29, CCp_sF29, rk_n0 hp_2, Ks1]); omega) | omega | (exact fun hf_ => (A1 (by omega))) | (exact fun hf_ => Gu2 (by omega)) | (exact fun hf_ => Ku1 (by omega)) | (exact fun _ => ok1.i) | (exact fun hf_ => LI.z (fun h => absurd h (by decide))) | (exact fun hf_ => absurd hf_ (by omega)) | (exact fun hf_ => by omega) | (have zz_ := fz_z (by assumption); omega) | (split <;> omega) | done)), ?_⟩
        refine ⟨(by (try simp only [rk_X14_readArg, reduceIte, and_true, true_and, and_false, false_and, and_self, Nat.reduceEqDiff, fz_sF29, rF_sF, rA_sF, rR_sF, tr_sF, rNMp_sF, PNp_sF, GS_F29, OP_F29, NR_F29, LI_F29, RG_l29, RG_r29, TPRp_sF29, WNp_sF29, VMp_sF29, KYp_sF29, PPp_sF29, WFp_sF29, CCp_sF29, rk_n0 hp_2, Ks1]); (all_goals (repeat' (first | with_reducible intro _ | with_reducible apply And.intro | with_reducible refine Exists.intro g ?_ | with_reducible refine Im.and ?_ ?_))); all_goals (first | assumption | trivial | (unfold NBP; (try simp only [reduceIte, and_true, true_and, and_false, false_and, and_self, Nat.reduceEqDiff, fz_sF29, rF_sF, rA_sF, rR_sF, tr_sF, rNMp_sF, PNp_sF, GS_F29, OP_F29, NR_F29, LI_F29, RG_l29, RG_r29, TPRp_sF29, WNp_sF29, VMp_sF29, KYp_sF29, PPp_sF29, WFp_sF29, CCp_sF29, rk_n0 hp_2, Ks1]); omega) | (unfold NBQ; (try simp only [reduceIte, and_true, true_and, and_false, false_and, and_self, Nat.reduceEqDiff, fz_sF29, rF_sF, rA_sF, rR_sF, tr_sF, rNMp_sF, PNp_sF, GS_F29, OP_F29, NR_F29, LI_F29, RG_l29, RG_r29, TPRp_sF29, WNp_sF29, VMp_sF29, KYp_sF29, PPp_sF29, WFp_sF29, CCp_sF29, rk_n0 hp_2, Ks1]); omega) | omega | (exact fun hf_ => (A1 (by omega))) | (exact fun hf_ => Gu2 (by omega)) | (exact fun hf_ => Ku1 (by omega)) | (exact fun _ => ok1.i) | (exact fun hf_ => LI.z (fun h => absurd h (by decide))) | (exact fun hf_ => absurd hf_ (by omega)) | (exact fun hf_ => by omega) | (have zz_ := fz_z (by assumption); omega) | (split <;> omega) | done)), ?_⟩
        intro v89 s89 hv89 Ws89 e89_0 e89_1 e89_2 e89_3 e89_4 e89_5 e89_6 e89_7 e89_8 e89_9 q89
        unfold rng at hv89
        unfold post_X14_readArg at q89
        obtain ⟨q89_1, q89_2, q89_3, q89_4, q89_5, q89_6, q89_7, q89_8, q89_9⟩ := q89
        (try simp only [reduceIte, and_true, true_and, and_false, false_and, and_self, Nat.reduceEqDiff, fz_sF29, rF_sF, rA_sF, rR_sF, tr_sF, rNMp_sF, PNp_sF, GS_F29, OP_F29, NR_F29, LI_F29, RG_l29, RG_r29, TPRp_sF29, WNp_sF29, VMp_sF29, KYp_sF29, PPp_sF29, WFp_sF29, CCp_sF29, rk_n0 hp_2, Ks1, NBP, NBQ] at q89_1 q89_2 q89_3 q89_4 q89_5 q89_6 q89_7 q89_8 q89_9 e89_0 e89_1 e89_2 e89_3 e89_4 e89_5 e89_6 e89_7 e89_8 e89_9)
        have Ks89 : rR s89 7 = rR σ 7 := by (try simp only [rR_sF, rR_sA, rR_sT, rR_sL] at e89_0 e89_1 e89_2 e89_3 e89_4 e89_5 e89_6 e89_7 e89_8 e89_9); omega
        have zr89 := fz_rng s89
        have A89 : Im (fz s89 = 0) (RG σ s89 (rR σ 7) 0) := fun hf => RG.trk hp_2 (A1 (by omega)) (q89_8 (by omega)) (by omega)
        obtain ⟨g89, X89⟩ := q89_9
        have Ku5 : Im (fz s89 = 0) (GK g g89 (rF σ (rR σ 7) 7) (rF s89 (rR σ 7) 7) 0) := fun hf => GK.trans (Ku1 (by omega)) ((X89 hf).2.1) (by omega)
        have Gu6 : Im (fz s89 = 0) (GS s89 (rR σ 7) g89) := fun hf => (X89 hf).1
        have r89 : Im (fz s89 = 0) _ := fun hf => (X89 hf).2.2.1
        have TPRp_89 := e89_0 TPRp_1; clear e89_0
        have CCp_89 := e89_1 CCp_1; clear e89_1
        refine ⟨(by (try simp only [pre_X14_need, Ks89]); (all_goals (repeat' (first | with_reducible intro _ | with_reducible apply And.intro | with_reducible refine Exists.intro g89 ?_ | with_reducible refine Im.and ?_ ?_))); all_goals (first | assumption | trivial | (unfold NBP; (try simp only [Ks89]); omega) | (unfold NBQ; (try simp only [Ks89]); omega) | omega | (exact fun hf_ => (A89 (by omega))) | (exact fun hf_ => Gu6 (by omega)) | (exact fun hf_ => Ku5 (by omega)) | (exact fun hf_ => (r89 (by omega)).cst) | (exact fun _ => ok1.i) | (exact fun hf_ => LI.z (fun h => absurd h (by decide))) | (exact fun hf_ => absurd hf_ (by omega)) | (exact fun hf_ => by omega) | (have zz_ := fz_z (by assumption); omega) | (split <;> omega) | done)), ?_⟩
        intro s96 Ws96 e96_0 e96_1 e96_2 e96_3 e96_4 e96_5 e96_6 e96_7 e96_8 e96_9 e96_10 e96_11 e96_12 e96_13 e96_14 e96_15 e96_16 e96_17 e96_18 e96_19 e96_20 e96_21 e96_22 e96_23 R96 q96
        have q96 := dig_need q96 (by (try simp only [Ks89]); omega)
        obtain ⟨q96_1, q96_2, q96_3, q96_4⟩ := q96
        (try simp only [Ks89, NBP, NBQ] at q96_1 q96_2 q96_3 q96_4 e96_0 e96_1 e96_2 e96_3 e96_4 e96_5 e96_6 e96_7 e96_8 e96_9 e96_10 e96_11 e96_12 e96_13 e96_14 e96_15 e96_16 e96_17 e96_18 e96_19 e96_20 e96_21 e96_22 e96_23 R96)
        have Ks96 : rR s96 7 = rR σ 7 := by (try simp only [rR_sF, rR_sA, rR_sT, rR_sL] at e96_0 e96_1 e96_2 e96_3 e96_4 e96_5 e96_6 e96_7 e96_8 e96_9 e96_10 e96_11 e96_12 e96_13 e96_14 e96_15 e96_16 e96_17 e96_18 e96_19 e96_20 e96_21 e96_22 e96_23 R96); omega
        have zr96 := fz_rng s96
        have A96 : Im (fz s96 = 0) (RG σ s96 (rR σ 7) 0) := fun hf => RG.trk hp_2 (A89 (by omega)) R96 (by omega)
        have r89u7 : Im (fz s96 = 0) _ := fun hf => NR.gk (r89 (by omega)) (GK.up (g := g89) (N := rF s89 (rR σ 7) 7) (N' := rF s96 (rR σ 7) 7) (c := 0) (by first | omega | (simp only [rF_sT, rF_sA]; omega)))
        have Ku8 : Im (fz s96 = 0) (GK g g89 (rF σ (rR σ 7) 7) (rF s96 (rR σ 7) 7) 0) := fun hf => GK.trans (Ku5 (by omega)) (GK.up (N := rF s89 (rR σ 7) 7) (N' := rF s96 (rR σ 7) 7) (c := 0) (by first | omega | (simp only [rF_sT, rF_sA]; omega))) (by omega)
        have Gu9 : Im (fz s96 = 0) (GS s96 (rR σ 7) g89) := fun hf => GS.mv hp_2 (Gu6 (by omega)) R96
        have rNMp_96 := e96_0 q89_2; clear e96_0
        have TPRp_96 := e96_1 TPRp_89; clear e96_1
        have WNp_96 := e96_2 q89_3; clear e96_2
        have PNp_96 := e96_3 q89_4; clear e96_3
        have CCp_96 := e96_4 CCp_89; clear e96_4
        refine ⟨(by (try simp only [pre_X14_need, Ks96]); (all_goals (repeat' (first | with_reducible intro _ | with_reducible apply And.intro | with_reducible refine Exists.intro g89 ?_ | with_reducible refine Im.and ?_ ?_))); all_goals (first | assumption | trivial | (unfold NBP; (try simp only [Ks96]); omega) | (unfold NBQ; (try simp only [Ks96]); omega) | omega | (exact fun hf_ => (A96 (by omega))) | (exact fun hf_ => Gu9 (by omega)) | (exact fun hf_ => Ku8 (by omega)) | (exact fun hf_ => (r89u7 (by omega)).cst) | (exact fun _ => ok1.i) | (exact fun hf_ => LI.z (fun h => absurd h (by decide))) | (exact fun hf_ => absurd hf_ (by omega)) | (exact fun hf_ => by omega) | (have zz_ := fz_z (by assumption); omega) | (split <;> omega) | done)), ?_⟩
        intro s102 Ws102 e102_0 e102_1 e102_2 e102_3 e102_4 e102_5 e102_6 e102_7 e102_8 e102_9 e102_10 e102_11 e102_12 e102_13 e102_14 e102_15 e102_16 e102_17 e102_18 e102_19 e102_20 e102_21 e102_22 e102_23 R102 q102
        have q102 := dig_need q102 (by (try simp only [Ks96]); omega)
        obtain ⟨q102_1, q102_2, q102_3, q102_4⟩ := q102
        (try simp only [Ks96, NBP, NBQ] at q102_1 q102_2 q102_3 q102_4 e102_0 e102_1 e102_2 e102_3 e102_4 e102_5 e102_6 e102_7 e102_8 e102_9 e102_10 e102_11 e102_12 e102_13 e102_14 e102_15 e102_16 e102_17 e102_18 e102_19 e102_20 e102_21 e102_22 e102_23 R102)
        have Ks102 : rR s102 7 = rR σ 7 := by (try simp only [rR_sF, rR_sA, rR_sT, rR_sL] at e102_0 e102_1 e102_2 e102_3 e102_4 e102_5 e102_6 e102_7 e102_8 e102_9 e102_10 e102_11 e102_12 e102_13 e102_14 e102_15 e102_16 e102_17 e102_18 e102_19 e102_20 e102_21 e102_22 e102_23 R102); omega
        have zr102 := fz_rng s102
        have A102 : Im (fz s102 = 0) (RG σ s102 (rR σ 7) 0) := fun hf => RG.trk hp_2 (A96 (by omega)) R102 (by omega)
        have r89u10 : Im (fz s102 = 0) _ := fun hf => NR.gk (r89u7 (by omega)) (GK.up (g := g89) (N := rF s96 (rR σ 7) 7) (N' := rF s102 (rR σ 7) 7) (c := 0) (by first | omega | (simp only [rF_sT, rF_sA]; omega)))
        have Ku11 : Im (fz s102 = 0) (GK g g89 (rF σ (rR σ 7) 7) (rF s102 (rR σ 7) 7) 0) := fun hf => GK.trans (Ku8 (by omega)) (GK.up (N := rF s96 (rR σ 7) 7) (N' := rF s102 (rR σ 7) 7) (c := 0) (by first | omega | (simp only [rF_sT, rF_sA]; omega))) (by omega)
        have Gu12 : Im (fz s102 = 0) (GS s102 (rR σ 7) g89) := fun hf => GS.mv hp_2 (Gu9 (by omega)) R102
        have rNMp_102 := e102_0 rNMp_96; clear e102_0
        have TPRp_102 := e102_1 TPRp_96; clear e102_1
        have WNp_102 := e102_2 WNp_96; clear e102_2
        have PNp_102 := e102_3 PNp_96; clear e102_3
        have CCp_102 := e102_4 CCp_96; clear e102_4
        refine ⟨(by (try simp only [pre_X14_node_t, Ks102]); (all_goals (repeat' (first | with_reducible intro _ | with_reducible apply And.intro | with_reducible refine Exists.intro g89 ?_ | with_reducible refine Im.and ?_ ?_))); all_goals (first | assumption | trivial | (unfold NBP; (try simp only [Ks102]); omega) | (unfold NBQ; (try simp only [Ks102]); omega) | omega | (exact fun hf_ => (A102 (by omega))) | (exact fun hf_ => Gu12 (by omega)) | (exact fun hf_ => Ku11 (by omega)) | (exact fun hf_ => (r89u10 (by omega)).cst) | (exact fun _ => ok1.i) | (exact fun hf_ => LI.z (fun h => absurd h (by decide))) | (exact fun hf_ => absurd hf_ (by omega)) | (exact fun hf_ => by omega) | (have zz_ := fz_z (by assumption); omega) | (split <;> omega) | done)), ?_⟩
        intro v111 s111 hv111 Ws111 e111_0 e111_1 e111_2 e111_3 e111_4 e111_5 e111_6 e111_7 e111_8 e111_9 e111_10 e111_11 e111_12 e111_13 e111_14 e111_15 e111_16 e111_17 e111_18 e111_19 e111_20 e111_21 e111_22 e111_23 e111_24 e111_25 q111
        unfold rng at hv111
        unfold post_X14_node_t at q111
        obtain ⟨q111_1, q111_2, q111_3, q111_4, q111_5, q111_6, q111_7, q111_8, q111_9⟩ := q111
        (try simp only [Ks102, NBP, NBQ] at q111_1 q111_2 q111_3 q111_4 q111_5 q111_6 q111_7 q111_8 q111_9 e111_0 e111_1 e111_2 e111_3 e111_4 e111_5 e111_6 e111_7 e111_8 e111_9 e111_10 e111_11 e111_12 e111_13 e111_14 e111_15 e111_16 e111_17 e111_18 e111_19 e111_20 e111_21 e111_22 e111_23 e111_24 e111_25)
        have Ks111 : rR s111 7 = rR σ 7 := by (try simp only [rR_sF, rR_sA, rR_sT, rR_sL] at e111_0 e111_1 e111_2 e111_3 e111_4 e111_5 e111_6 e111_7 e111_8 e111_9 e111_10 e111_11 e111_12 e111_13 e111_14 e111_15 e111_16 e111_17 e111_18 e111_19 e111_20 e111_21 e111_22 e111_23 e111_24 e111_25); omega
        have zr111 := fz_rng s111
        have A111 : Im (fz s111 = 0) (RG σ s111 (rR σ 7) 0) := fun hf => RG.trk hp_2 (A102 (by omega)) q111_3 (by omega)
        obtain ⟨g111, X111⟩ := EV_46 (P := fz s111 = 0) ((rF s1 0 29) + 1) (rF s89 0 31) hp_2 (fun hf => Gu12 (by omega)) (fun hf => r89u10 (by omega)) (fun _ h => h) (fun hf => q111_3) q111_1 q111_2 q111_4 q111_5 q111_6 q111_9 (fun hf => by (try simp only [rF_sT, rF_sA]); (repeat' (with_reducible apply And.intro)) <;> first | trivial | omega)
        have Ku13 : Im (fz s111 = 0) (GK g g111 (rF σ (rR σ 7) 7) (rF s111 (rR σ 7) 7) 0) := fun hf => GK.kv (Ku11 (by omega)) (X111 hf).2.1 (by omega)
        have Gu14 : Im (fz s111 = 0) _ := fun hf => (X111 hf).1
        have O111 : Im (fz s111 = 0) _ := fun hf => (X111 hf).2.2.1
        have L111_1 : Im (fz s111 = 0) _ := fun hf => (X111 hf).2.2.2.1
        have L111_2 : Im (fz s111 = 0) (LI s111 (rR σ 7) g111 v111 2 46 0) := fun hf => LI.z (fun h => (X111 hf).2.2.2.2.2)
        have rNMp_111 := e111_0 rNMp_102; clear e111_0
        have TPRp_111 := e111_1 TPRp_102; clear e111_1
        have WNp_111 := e111_2 WNp_102; clear e111_2
        have PNp_111 := e111_3 PNp_102; clear e111_3
        have CCp_111 := e111_4 CCp_102; clear e111_4
        refine ⟨g111, ?_⟩
        refine ⟨46, ?_⟩
        refine ⟨(by (try simp only [pre_X14_readArgs, Ks111]); (all_goals (repeat' (first | with_reducible intro _ | with_reducible apply And.intro | with_reducible refine Exists.intro g111 ?_ | with_reducible refine Im.and ?_ ?_))); all_goals (first | assumption | trivial | (unfold NBP; (try simp only [Ks111]); omega) | (unfold NBQ; (try simp only [Ks111]); omega) | omega | (exact fun hf_ => (A111 (by omega))) | (exact fun hf_ => Gu14 (by omega)) | (exact fun hf_ => Ku13 (by omega)) | (exact fun hf_ => (O111 (by omega)).cst) | (exact fun hf_ => L111_1 (by omega)) | (exact fun hf_ => L111_2 (by omega)) | (exact fun _ => ok1.i) | (exact fun hf_ => LI.z (fun h => absurd h (by decide))) | (exact fun hf_ => absurd hf_ (by omega)) | (exact fun hf_ => by omega) | (have zz_ := fz_z (by assumption); omega) | (split <;> omega) | done)), ?_⟩
        refine ⟨(by (try simp only [rk_X14_readArgs, Ks111]); (all_goals (repeat' (first | with_reducible intro _ | with_reducible apply And.intro | with_reducible refine Exists.intro g111 ?_ | with_reducible refine Im.and ?_ ?_))); all_goals (first | assumption | trivial | (unfold NBP; (try simp only [Ks111]); omega) | (unfold NBQ; (try simp only [Ks111]); omega) | omega | (exact fun hf_ => (A111 (by omega))) | (exact fun hf_ => Gu14 (by omega)) | (exact fun hf_ => Ku13 (by omega)) | (exact fun hf_ => (O111 (by omega)).cst) | (exact fun hf_ => L111_1 (by omega)) | (exact fun hf_ => L111_2 (by omega)) | (exact fun _ => ok1.i) | (exact fun hf_ => LI.z (fun h => absurd h (by decide))) | (exact fun hf_ => absurd hf_ (by omega)) | (exact fun hf_ => by omega) | (have zz_ := fz_z (by assumption); omega) | (split <;> omega) | done)), ?_⟩
        intro s117 Ws117 e117_0 e117_1 e117_2 e117_3 e117_4 e117_5 e117_6 e117_7 e117_8 e117_9 q117
        unfold post_X14_readArgs at q117
        obtain ⟨q117_1, q117_2, q117_3, q117_4, q117_5, q117_6⟩ := q117
        (try simp only [Ks111, NBP, NBQ] at q117_1 q117_2 q117_3 q117_4 q117_5 q117_6 e117_0 e117_1 e117_2 e117_3 e117_4 e117_5 e117_6 e117_7 e117_8 e117_9)
        have Ks117 : rR s117 7 = rR σ 7 := by (try simp only [rR_sF, rR_sA, rR_sT, rR_sL] at e117_0 e117_1 e117_2 e117_3 e117_4 e117_5 e117_6 e117_7 e117_8 e117_9); omega
        have zr117 := fz_rng s117
        have A117 : Im (fz s117 = 0) (RG σ s117 (rR σ 7) 0) := fun hf => RG.trk hp_2 (A111 (by omega)) (q117_5 (by omega)) (by omega)
        obtain ⟨g117, X117⟩ := q117_6
        have Ku15 : Im (fz s117 = 0) (GK g g117 (rF σ (rR σ 7) 7) (rF s117 (rR σ 7) 7) 0) := fun hf => GK.trans (Ku13 (by omega)) ((X117 hf).2.1) (by omega)
        have Gu16 : Im (fz s117 = 0) (GS s117 (rR σ 7) g117) := fun hf => (X117 hf).1
        have O117 : Im (fz s117 = 0) _ := fun hf => OP.lo (O111 (by omega)) ((X117 hf).2.1) ((X117 hf).2.2.1)
        have TPRp_117 := e117_0 TPRp_111; clear e117_0
        have CCp_117 := e117_1 CCp_111; clear e117_1
        obtain ⟨gu17, Xu18⟩ := EC_46 (P := fz s117 = 0) (rF s117 0 29) (fun hf => Gu16 (by omega)) (fun hf => O117 (by omega)) (fun hf => by omega)
        have O117u19 : Im (fz s117 = 0) _ := fun hf => (Xu18 hf).2.1
        have Ku20 : Im (fz s117 = 0) (GK g gu17 (rF σ (rR σ 7) 7) (rF s117 (rR σ 7) 7) 0) := fun hf => GK.kc (Ku15 (by omega)) (Xu18 hf).2.2 (by omega)
        have Gu21 : Im (fz s117 = 0) _ := fun hf => (Xu18 hf).1
        exact (by (try simp only [post_X14_readApplied, Ks117]); (all_goals (repeat' (first | with_reducible intro _ | with_reducible apply And.intro | with_reducible refine Exists.intro gu17 ?_ | with_reducible refine Im.and ?_ ?_))); all_goals (first | assumption | trivial | (unfold NBP; (try simp only [Ks117]); omega) | (unfold NBQ; (try simp only [Ks117]); omega) | omega | (exact fun hf_ => (A117 (by omega))) | (exact fun hf_ => Gu21 (by omega)) | (exact fun hf_ => Ku20 (by omega)) | (exact fun hf_ => (O117u19 (by omega)).cst) | (exact fun _ => ok1.i) | (exact fun hf_ => LI.z (fun h => absurd h (by decide))) | (exact fun hf_ => absurd hf_ (by omega)) | (exact fun hf_ => by omega) | (have zz_ := fz_z (by assumption); omega) | (split <;> omega) | done))
    · intro hr_; unfold rng at hr_
      refine ⟨(by (try simp only [pre_X14_check_t, Ks1]); (all_goals (repeat' (first | with_reducible intro _ | with_reducible apply And.intro | with_reducible refine Exists.intro g ?_ | with_reducible refine Im.and ?_ ?_))); all_goals (first | assumption | trivial | (unfold NBP; (try simp only [Ks1]); omega) | (unfold NBQ; (try simp only [Ks1]); omega) | omega | (exact fun hf_ => (A1 (by omega))) | (exact fun hf_ => Gu2 (by omega)) | (exact fun hf_ => Ku1 (by omega)) | (exact fun _ => ok1.i) | (exact fun hf_ => LI.z (fun h => absurd h (by decide))) | (exact fun hf_ => absurd hf_ (by omega)) | (exact fun hf_ => by omega) | (have zz_ := fz_z (by assumption); omega) | (split <;> omega) | done)), ?_⟩
      intro s41 Ws41 e41_0 e41_1 e41_2 e41_3 e41_4 e41_5 e41_6 e41_7 e41_8 e41_9 e41_10 e41_11 e41_12 e41_13 e41_14 e41_15 e41_16 e41_17 e41_18 e41_19 e41_20 e41_21 e41_22 q41
      unfold post_X14_check_t at q41
      obtain ⟨q41_1, q41_2, q41_3, q41_4, q41_5, q41_6⟩ := q41
      (try simp only [Ks1, NBP, NBQ] at q41_1 q41_2 q41_3 q41_4 q41_5 q41_6 e41_0 e41_1 e41_2 e41_3 e41_4 e41_5 e41_6 e41_7 e41_8 e41_9 e41_10 e41_11 e41_12 e41_13 e41_14 e41_15 e41_16 e41_17 e41_18 e41_19 e41_20 e41_21 e41_22)
      have Ks41 : rR s41 7 = rR σ 7 := by (try simp only [rR_sF, rR_sA, rR_sT, rR_sL] at e41_0 e41_1 e41_2 e41_3 e41_4 e41_5 e41_6 e41_7 e41_8 e41_9 e41_10 e41_11 e41_12 e41_13 e41_14 e41_15 e41_16 e41_17 e41_18 e41_19 e41_20 e41_21 e41_22); omega
      have zr41 := fz_rng s41
      have A41 : Im (fz s41 = 0) (RG σ s41 (rR σ 7) 0) := fun hf => RG.trk hp_2 (A1 (by omega)) q41_2 (by omega)
      have Ku22 : Im (fz s41 = 0) (GK g g (rF σ (rR σ 7) 7) (rF s41 (rR σ 7) 7) 0) := fun hf => GK.trans (Ku1 (by omega)) (GK.up (N := rF s1 (rR σ 7) 7) (N' := rF s41 (rR σ 7) 7) (c := 0) (by first | omega | (simp only [rF_sT, rF_sA]; omega))) (by omega)
      have Gu23 : Im (fz s41 = 0) (GS s41 (rR σ 7) g) := fun hf => GS.mv hp_2 (Gu2 (by omega)) q41_2
      have rNMp_41 := e41_0 rNMp_1; clear e41_0
      have TPRp_41 := e41_1 TPRp_1; clear e41_1
      have WNp_41 := e41_2 WNp_1; clear e41_2
      have PNp_41 := e41_3 PNp_1; clear e41_3
      have CCp_41 := e41_4 CCp_1; clear e41_4
      refine ⟨g, ?_⟩
      refine ⟨(by (try simp only [pre_X14_readSub, Ks41]); (all_goals (repeat' (first | with_reducible intro _ | with_reducible apply And.intro | with_reducible refine Exists.intro g ?_ | with_reducible refine Im.and ?_ ?_))); all_goals (first | assumption | trivial | (unfold NBP; (try simp only [Ks41]); omega) | (unfold NBQ; (try simp only [Ks41]); omega) | omega | (exact fun hf_ => (A41 (by omega))) | (exact fun hf_ => Gu23 (by omega)) | (exact fun hf_ => Ku22 (by omega)) | (exact fun _ => ok1.i) | (exact fun hf_ => LI.z (fun h => absurd h (by decide))) | (exact fun hf_ => absurd hf_ (by omega)) | (exact fun hf_ => by omega) | (have zz_ := fz_z (by assumption); omega) | (split <;> omega) | done)), ?_⟩
      refine ⟨(by (try simp only [rk_X14_readSub, Ks41]); (all_goals (repeat' (first | with_reducible intro _ | with_reducible apply And.intro | with_reducible refine Exists.intro g ?_ | with_reducible refine Im.and ?_ ?_))); all_goals (first | assumption | trivial | (unfold NBP; (try simp only [Ks41]); omega) | (unfold NBQ; (try simp only [Ks41]); omega) | omega | (exact fun hf_ => (A41 (by omega))) | (exact fun hf_ => Gu23 (by omega)) | (exact fun hf_ => Ku22 (by omega)) | (exact fun _ => ok1.i) | (exact fun hf_ => LI.z (fun h => absurd h (by decide))) | (exact fun hf_ => absurd hf_ (by omega)) | (exact fun hf_ => by omega) | (have zz_ := fz_z (by assumption); omega) | (split <;> omega) | done)), ?_⟩
      intro v45 s45 hv45 Ws45 e45_0 e45_1 e45_2 e45_3 e45_4 e45_5 e45_6 e45_7 e45_8 e45_9 q45
      unfold rng at hv45
      unfold post_X14_readSub at q45
      obtain ⟨q45_1, q45_2, q45_3, q45_4, q45_5, q45_6, q45_7, q45_8, q45_9⟩ := q45
      (try simp only [Ks41, NBP, NBQ] at q45_1 q45_2 q45_3 q45_4 q45_5 q45_6 q45_7 q45_8 q45_9 e45_0 e45_1 e45_2 e45_3 e45_4 e45_5 e45_6 e45_7 e45_8 e45_9)
      have Ks45 : rR s45 7 = rR σ 7 := by (try simp only [rR_sF, rR_sA, rR_sT, rR_sL] at e45_0 e45_1 e45_2 e45_3 e45_4 e45_5 e45_6 e45_7 e45_8 e45_9); omega
      have zr45 := fz_rng s45
      have A45 : Im (fz s45 = 0) (RG σ s45 (rR σ 7) 0) := fun hf => RG.trk hp_2 (A41 (by omega)) (q45_8 (by omega)) (by omega)
      obtain ⟨g45, X45⟩ := q45_9
      have Ku24 : Im (fz s45 = 0) (GK g g45 (rF σ (rR σ 7) 7) (rF s45 (rR σ 7) 7) 0) := fun hf => GK.trans (Ku22 (by omega)) ((X45 hf).2.1) (by omega)
      have Gu25 : Im (fz s45 = 0) (GS s45 (rR σ 7) g45) := fun hf => (X45 hf).1
      have r45 : Im (fz s45 = 0) _ := fun hf => (X45 hf).2.2.1
      have TPRp_45 := e45_0 TPRp_41; clear e45_0
      have CCp_45 := e45_1 CCp_41; clear e45_1
      refine ⟨(by (try simp only [Ks45]); (all_goals (repeat' (first | with_reducible intro _ | with_reducible apply And.intro | with_reducible refine Exists.intro g45 ?_ | with_reducible refine Im.and ?_ ?_))); all_goals (first | assumption | trivial | (unfold NBP; (try simp only [Ks45]); omega) | (unfold NBQ; (try simp only [Ks45]); omega) | omega | (exact fun hf_ => (A45 (by omega))) | (exact fun hf_ => Gu25 (by omega)) | (exact fun hf_ => Ku24 (by omega)) | (exact fun hf_ => (r45 (by omega)).cst) | (exact fun hf_ => ((r45 (by omega)).so so_10_2).cst) | (exact fun _ => ok1.i) | (exact fun hf_ => LI.z (fun h => absurd h (by decide))) | (exact fun hf_ => absurd hf_ (by omega)) | (exact fun hf_ => by omega) | (have zz_ := fz_z (by assumption); omega) | (split <;> omega) | done)), ?_⟩
      have A58 : Im (fz s45 = 0) (RG σ (sA s45 (1000 * ((rR σ 7) + 1) + 34) (rF s1 (rR σ 7) 38) v45) (rR σ 7) 0) := fun hf => RG.c34 (j := (rF s1 (rR σ 7) 38)) (x := v45) hp_2 (A45 (by omega)) (by omega) ((RG.ck hp_2 (q45_8 (by omega)) (by omega)).trans q41_4)
      have r45u26 : Im (fz s45 = 0) _ := fun hf => NR.g34 (i := (rF s1 (rR σ 7) 38)) (z := v45) (r45 (by omega))
      have Gu27 : Im (fz s45 = 0) _ := fun hf => GS.g34 (i := (rF s1 (rR σ 7) 38)) (x := v45) (Gu25 (by omega))
      refine ⟨(by (try simp only [pre_X14_node_t, reduceIte, and_true, true_and, and_false, false_and, and_self, Nat.reduceEqDiff, fz_sA, rF_sA, rA_sA, rR_sA, rNMp_g34, PNp_g34, WNp_g34 hp_2, tr_g34, TPRp_gA34, VMp_gA34, KYp_gA34, PPp_gA34, WFp_gA34, CCp_gA34, rk_n0 hp_2, Ks45]); (all_goals (repeat' (first | with_reducible intro _ | with_reducible apply And.intro | with_reducible refine Exists.intro g45 ?_ | with_reducible refine Im.and ?_ ?_))); all_goals (first | assumption | trivial | (unfold NBP; (try simp only [reduceIte, and_true, true_and, and_false, false_and, and_self, Nat.reduceEqDiff, fz_sA, rF_sA, rA_sA, rR_sA, rNMp_g34, PNp_g34, WNp_g34 hp_2, tr_g34, TPRp_gA34, VMp_gA34, KYp_gA34, PPp_gA34, WFp_gA34, CCp_gA34, rk_n0 hp_2, Ks45]); omega) | (unfold NBQ; (try simp only [reduceIte, and_true, true_and, and_false, false_and, and_self, Nat.reduceEqDiff, fz_sA, rF_sA, rA_sA, rR_sA, rNMp_g34, PNp_g34, WNp_g34 hp_2, tr_g34, TPRp_gA34, VMp_gA34, KYp_gA34, PPp_gA34, WFp_gA34, CCp_gA34, rk_n0 hp_2, Ks45]); omega) | omega | (exact fun hf_ => (A58 (by omega))) | (exact fun hf_ => Gu27 (by omega)) | (exact fun hf_ => Ku24 (by omega)) | (exact fun hf_ => (r45u26 (by omega)).cst) | (exact fun hf_ => ((r45u26 (by omega)).so so_10_2).cst) | (exact fun _ => ok1.i) | (exact fun hf_ => LI.z (fun h => absurd h (by decide))) | (exact fun hf_ => absurd hf_ (by omega)) | (exact fun hf_ => by omega) | (have zz_ := fz_z (by assumption); omega) | (split <;> omega) | done)), ?_⟩
      intro v65 s65 hv65 Ws65 e65_0 e65_1 e65_2 e65_3 e65_4 e65_5 e65_6 e65_7 e65_8 e65_9 e65_10 e65_11 e65_12 e65_13 e65_14 e65_15 e65_16 e65_17 e65_18 e65_19 e65_20 e65_21 e65_22 e65_23 e65_24 e65_25 q65
      unfold rng at hv65
      unfold post_X14_node_t at q65
      obtain ⟨q65_1, q65_2, q65_3, q65_4, q65_5, q65_6, q65_7, q65_8, q65_9⟩ := q65
      (try simp only [reduceIte, and_true, true_and, and_false, false_and, and_self, Nat.reduceEqDiff, fz_sA, rF_sA, rA_sA, rR_sA, rNMp_g34, PNp_g34, WNp_g34 hp_2, tr_g34, TPRp_gA34, VMp_gA34, KYp_gA34, PPp_gA34, WFp_gA34, CCp_gA34, rk_n0 hp_2, Ks45, NBP, NBQ] at q65_1 q65_2 q65_3 q65_4 q65_5 q65_6 q65_7 q65_8 q65_9 e65_0 e65_1 e65_2 e65_3 e65_4 e65_5 e65_6 e65_7 e65_8 e65_9 e65_10 e65_11 e65_12 e65_13 e65_14 e65_15 e65_16 e65_17 e65_18 e65_19 e65_20 e65_21 e65_22 e65_23 e65_24 e65_25)
      have Ks65 : rR s65 7 = rR σ 7 := by (try simp only [rR_sF, rR_sA, rR_sT, rR_sL] at e65_0 e65_1 e65_2 e65_3 e65_4 e65_5 e65_6 e65_7 e65_8 e65_9 e65_10 e65_11 e65_12 e65_13 e65_14 e65_15 e65_16 e65_17 e65_18 e65_19 e65_20 e65_21 e65_22 e65_23 e65_24 e65_25); omega
      have zr65 := fz_rng s65
      have A65 : Im (fz s65 = 0) (RG σ s65 (rR σ 7) 0) := fun hf => RG.trk hp_2 (A58 (by omega)) q65_3 (by omega)
      obtain ⟨g65, X65⟩ := EV_47 (P := fz s65 = 0) (rF s1 0 29) (rF s45 0 31) hp_2 (fun hf => Gu27 (by omega)) (fun hf => r45u26 (by omega)) (fun _ h => h) (fun hf => q65_3) q65_1 q65_2 q65_4 q65_5 q65_6 q65_9 (fun hf => by (try simp only [rF_sT, rF_sA]); (repeat' (with_reducible apply And.intro)) <;> first | trivial | omega)
      have Ku28 : Im (fz s65 = 0) (GK g g65 (rF σ (rR σ 7) 7) (rF s65 (rR σ 7) 7) 0) := fun hf => GK.kv (Ku24 (by omega)) (X65 hf).2.1 (by omega)
      have Gu29 : Im (fz s65 = 0) _ := fun hf => (X65 hf).1
      have O65 : Im (fz s65 = 0) _ := fun hf => (X65 hf).2.2.1
      have L65_1 : Im (fz s65 = 0) _ := fun hf => (X65 hf).2.2.2.1
      have rNMp_65 := e65_0 q45_2; clear e65_0
      have TPRp_65 := e65_1 TPRp_45; clear e65_1
      have WNp_65 := e65_2 q45_3; clear e65_2
      have PNp_65 := e65_3 q45_4; clear e65_3
      have CCp_65 := e65_4 CCp_45; clear e65_4
      obtain ⟨gu30, Xu31⟩ := EC_47 (P := fz s65 = 0) (rF s45 0 29) (fun hf => Gu29 (by omega)) (fun hf => O65 (by omega)) (fun hf => by omega)
      have O65u32 : Im (fz s65 = 0) _ := fun hf => (Xu31 hf).2.1
      have Ku33 : Im (fz s65 = 0) (GK g gu30 (rF σ (rR σ 7) 7) (rF s65 (rR σ 7) 7) 0) := fun hf => GK.kc (Ku28 (by omega)) (Xu31 hf).2.2 (by omega)
      have Gu34 : Im (fz s65 = 0) _ := fun hf => (Xu31 hf).1
      exact (by (try simp only [post_X14_readApplied, Ks65]); (all_goals (repeat' (first | with_reducible intro _ | with_reducible apply And.intro | with_reducible refine Exists.intro gu30 ?_ | with_reducible refine Im.and ?_ ?_))); all_goals (first | assumption | trivial | (unfold NBP; (try simp only [Ks65]); omega) | (unfold NBQ; (try simp only [Ks65]); omega) | omega | (exact fun hf_ => (A65 (by omega))) | (exact fun hf_ => Gu34 (by omega)) | (exact fun hf_ => Ku33 (by omega)) | (exact fun hf_ => (O65u32 (by omega)).cst) | (exact fun _ => ok1.i) | (exact fun hf_ => LI.z (fun h => absurd h (by decide))) | (exact fun hf_ => absurd hf_ (by omega)) | (exact fun hf_ => by omega) | (have zz_ := fz_z (by assumption); omega) | (split <;> omega) | done))
  · have z8 := fz_n c8
    exact (by (try simp only [post_X14_readApplied, Ks1]); (all_goals (repeat' (first | with_reducible intro _ | with_reducible apply And.intro | with_reducible refine Exists.intro g ?_ | with_reducible refine Im.and ?_ ?_))); all_goals (first | assumption | trivial | (unfold NBP; (try simp only [Ks1]); omega) | (unfold NBQ; (try simp only [Ks1]); omega) | omega | (exact fun hf_ => (A1 (by omega))) | (exact fun hf_ => Gu2 (by omega)) | (exact fun hf_ => Ku1 (by omega)) | (exact fun _ => ok1.i) | (exact fun hf_ => LI.z (fun h => absurd h (by decide))) | (exact fun hf_ => absurd hf_ (by omega)) | (exact fun hf_ => by omega) | (have zz_ := fz_z (by assumption); omega) | (split <;> omega) | done))
set_option maxHeartbeats 4000000 in
theorem vX14_readPrimary (n : Nat) (σ : rS) (gg : Nat) (g : Nat → Int → Int) (hwf : rWF σ) (hp : pre_X14_readPrimary σ gg g) (hr : rk_X14_readPrimary σ gg g ≤ n + 1) : VC_X14_readPrimary n σ gg g (post_X14_readPrimary σ gg g) := by
  unfold pre_X14_readPrimary at hp
  obtain ⟨hp_1, hp_2, hp_3, hp_4, hp_5, hp_6, hp_7, hp_8, hp_9⟩ := hp
  subst hp_1
  unfold rk_X14_readPrimary at hr
  have hN := hp_4
  unfold NBP at hN
  have hC := hp_3
  unfold CCp at hC
  obtain ⟨hC1, hC⟩ := hC
  have zr0 := fz_rng σ
  have hr2 : fz σ = 0 → 16 * (21 - rF σ 0 31).toNat + 5 ≤ n + 1 := fun h => by rw [if_pos h] at hr; exact hr
  have hr3 : 5 ≤ n + 1 := by have := hr; split at this <;> omega
  clear hr
  unfold VC_X14_readPrimary
  refine ⟨(by (all_goals (repeat' (first | with_reducible intro _ | with_reducible apply And.intro))); all_goals (first | assumption | trivial | (unfold NBP; omega) | (unfold NBQ; omega) | omega | (have zz_ := fz_z (by assumption); omega) | (split <;> omega) | done)), ?_⟩
  refine ⟨(by (try simp only [pre_X14_place]); (all_goals (repeat' (first | with_reducible intro _ | with_reducible apply And.intro | with_reducible refine Exists.intro g ?_ | with_reducible refine Im.and ?_ ?_))); all_goals (first | assumption | trivial | (unfold NBP; omega) | (unfold NBQ; omega) | omega | (exact fun hf_ => ((fun _ => RG.rf) (by omega))) | (exact fun hf_ => hp_8 (by omega)) | (exact fun hf_ => (fun _ => GK.rf) (by omega)) | (exact fun _ => ok1.i) | (exact fun hf_ => LI.z (fun h => absurd h (by decide))) | (exact fun hf_ => absurd hf_ (by omega)) | (exact fun hf_ => by omega) | (have zz_ := fz_z (by assumption); omega) | (split <;> omega) | done)), ?_⟩
  intro v1 hv1 q1
  unfold rng at hv1
  unfold post_X14_place at q1
  obtain ⟨q1_1, q1_2⟩ := q1
  (try simp only [NBP, NBQ] at q1_1 q1_2)
  refine ⟨(by (try simp only [pre_X14_here]); (all_goals (repeat' (first | with_reducible intro _ | with_reducible apply And.intro | with_reducible refine Exists.intro g ?_ | with_reducible refine Im.and ?_ ?_))); all_goals (first | assumption | trivial | (unfold NBP; omega) | (unfold NBQ; omega) | omega | (exact fun hf_ => ((fun _ => RG.rf) (by omega))) | (exact fun hf_ => hp_8 (by omega)) | (exact fun hf_ => (fun _ => GK.rf) (by omega)) | (exact fun _ => ok1.i) | (exact fun hf_ => LI.z (fun h => absurd h (by decide))) | (exact fun hf_ => absurd hf_ (by omega)) | (exact fun hf_ => by omega) | (have zz_ := fz_z (by assumption); omega) | (split <;> omega) | done)), ?_⟩
  intro v6 hv6 q6
  unfold rng at hv6
  unfold post_X14_here at q6
  obtain ⟨q6_1, q6_2⟩ := q6
  (try simp only [NBP, NBQ] at q6_1 q6_2)
  refine ⟨fun c13 => ?_, fun c13 => ?_⟩
  · refine ⟨g, ?_⟩
    refine ⟨(by (try simp only [pre_X14_readString_g]); (all_goals (repeat' (first | with_reducible intro _ | with_reducible apply And.intro | with_reducible refine Exists.intro g ?_ | with_reducible refine Im.and ?_ ?_))); all_goals (first | assumption | trivial | (unfold NBP; omega) | (unfold NBQ; omega) | omega | (exact fun hf_ => ((fun _ => RG.rf) (by omega))) | (exact fun hf_ => hp_8 (by omega)) | (exact fun hf_ => (fun _ => GK.rf) (by omega)) | (exact fun _ => ok1.i) | (exact fun hf_ => LI.z (fun h => absurd h (by decide))) | (exact fun hf_ => absurd hf_ (by omega)) | (exact fun hf_ => by omega) | (have zz_ := fz_z (by assumption); omega) | (split <;> omega) | done)), ?_⟩
    intro v24 s24 hv24 Ws24 e24_0 e24_1 e24_2 e24_3 e24_4 e24_5 e24_6 e24_7 e24_8 e24_9 e24_10 e24_11 e24_12 e24_13 e24_14 e24_15 e24_16 e24_17 e24_18 e24_19 q24
    unfold rng at hv24
    unfold post_X14_readString_g at q24
    obtain ⟨q24_1, q24_2, q24_3, q24_4, q24_5, q24_6, q24_7, q24_8, q24_9, q24_10, q24_11, q24_12, q24_13, q24_14⟩ := q24
    (try simp only [NBP, NBQ] at q24_1 q24_2 q24_3 q24_4 q24_5 q24_6 q24_7 q24_8 q24_9 q24_10 q24_11 q24_12 q24_13 q24_14 e24_0 e24_1 e24_2 e24_3 e24_4 e24_5 e24_6 e24_7 e24_8 e24_9 e24_10 e24_11 e24_12 e24_13 e24_14 e24_15 e24_16 e24_17 e24_18 e24_19)
    have Ks24 : rR s24 7 = rR σ 7 := by (try simp only [rR_sF, rR_sA, rR_sT, rR_sL] at e24_0 e24_1 e24_2 e24_3 e24_4 e24_5 e24_6 e24_7 e24_8 e24_9 e24_10 e24_11 e24_12 e24_13 e24_14 e24_15 e24_16 e24_17 e24_18 e24_19); omega
    have zr24 := fz_rng s24
    have A24 : Im (fz s24 = 0) (RG σ s24 (rR σ 7) 0) := fun hf => RG.trk hp_2 ((fun _ => RG.rf) (by omega)) (q24_13 (by omega)) (by omega)
    obtain ⟨g24, X24⟩ := q24_14
    have Ku1 : Im (fz s24 = 0) (GK g g24 (rF σ (rR σ 7) 7) (rF s24 (rR σ 7) 7) 0) := fun hf => GK.trans ((fun _ => GK.rf) (by omega)) ((X24 hf).2.1) (by omega)
    have Gu2 : Im (fz s24 = 0) (GS s24 (rR σ 7) g24) := fun hf => (X24 hf).1
    have r24 : Im (fz s24 = 0) _ := fun hf => (X24 hf).2.2.1
    have TPRp_24 := e24_0 hC1; clear e24_0
    have WNp_24 := e24_1 hp_6; clear e24_1
    have PNp_24 := e24_2 hp_7; clear e24_2
    have CCp_24 := e24_3 hp_3; clear e24_3
    exact (by (try simp only [post_X14_readPrimary, Ks24]); (all_goals (repeat' (first | with_reducible intro _ | with_reducible apply And.intro | with_reducible refine Exists.intro g24 ?_ | with_reducible refine Im.and ?_ ?_))); all_goals (first | assumption | trivial | (unfold NBP; (try simp only [Ks24]); omega) | (unfold NBQ; (try simp only [Ks24]); omega) | omega | (exact fun hf_ => (A24 (by omega))) | (exact fun hf_ => Gu2 (by omega)) | (exact fun hf_ => Ku1 (by omega)) | (exact fun hf_ => (r24 (by omega)).cst) | (exact fun _ => ok1.i) | (exact fun hf_ => LI.z (fun h => absurd h (by decide))) | (exact fun hf_ => absurd hf_ (by omega)) | (exact fun hf_ => by omega) | (have zz_ := fz_z (by assumption); omega) | (split <;> omega) | done))
  · refine ⟨fun c19 => ?_, fun c19 => ?_⟩
    · refine ⟨fun c31 => ?_, fun c31 => ?_⟩
      · refine ⟨fun c42 => ?_, fun c42 => ?_⟩
        · refine ⟨fun c53 => ?_, fun c53 => ?_⟩
          · refine ⟨(by (try simp only [pre_X14_isWord_t]); (all_goals (repeat' (first | with_reducible intro _ | with_reducible apply And.intro | with_reducible refine Exists.intro g ?_ | with_reducible refine Im.and ?_ ?_))); all_goals (first | assumption | trivial | (unfold NBP; omega) | (unfold NBQ; omega) | omega | (exact fun hf_ => ((fun _ => RG.rf) (by omega))) | (exact fun hf_ => hp_8 (by omega)) | (exact fun hf_ => (fun _ => GK.rf) (by omega)) | (exact fun _ => ok1.i) | (exact fun hf_ => LI.z (fun h => absurd h (by decide))) | (exact fun hf_ => absurd hf_ (by omega)) | (exact fun hf_ => by omega) | (have zz_ := fz_z (by assumption); omega) | (split <;> omega) | done)), ?_⟩
            intro v141 hv141 q141
            unfold rng at hv141
            unfold post_X14_isWord_t at q141
            obtain ⟨q141_1, q141_2, q141_3⟩ := q141
            (try simp only [NBP, NBQ] at q141_1 q141_2 q141_3)
            refine ⟨fun c144 => ?_, fun c144 => ?_⟩
            · refine ⟨(by (try simp only [pre_X14_isWord_t]); (all_goals (repeat' (first | with_reducible intro _ | with_reducible apply And.intro | with_reducible refine Exists.intro g ?_ | with_reducible refine Im.and ?_ ?_))); all_goals (first | assumption | trivial | (unfold NBP; omega) | (unfold NBQ; omega) | omega | (exact fun hf_ => ((fun _ => RG.rf) (by omega))) | (exact fun hf_ => hp_8 (by omega)) | (exact fun hf_ => (fun _ => GK.rf) (by omega)) | (exact fun _ => ok1.i) | (exact fun hf_ => LI.z (fun h => absurd h (by decide))) | (exact fun hf_ => absurd hf_ (by omega)) | (exact fun hf_ => by omega) | (have zz_ := fz_z (by assumption); omega) | (split <;> omega) | done)), ?_⟩
              intro v162 hv162 q162
              unfold rng at hv162
              unfold post_X14_isWord_t at q162
              obtain ⟨q162_1, q162_2, q162_3⟩ := q162
              (try simp only [NBP, NBQ] at q162_1 q162_2 q162_3)
              refine ⟨fun c165 => ?_, fun c165 => ?_⟩
              · refine ⟨(by (try simp only [pre_X14_node_t]); (all_goals (repeat' (first | with_reducible intro _ | with_reducible apply And.intro | with_reducible refine Exists.intro g ?_ | with_reducible refine Im.and ?_ ?_))); all_goals (first | assumption | trivial | (unfold NBP; omega) | (unfold NBQ; omega) | omega | (exact fun hf_ => ((fun _ => RG.rf) (by omega))) | (exact fun hf_ => hp_8 (by omega)) | (exact fun hf_ => (fun _ => GK.rf) (by omega)) | (exact fun _ => ok1.i) | (exact fun hf_ => LI.z (fun h => absurd h (by decide))) | (exact fun hf_ => absurd hf_ (by omega)) | (exact fun hf_ => by omega) | (have zz_ := fz_z (by assumption); omega) | (split <;> omega) | done)), ?_⟩
                intro v178 s178 hv178 Ws178 e178_0 e178_1 e178_2 e178_3 e178_4 e178_5 e178_6 e178_7 e178_8 e178_9 e178_10 e178_11 e178_12 e178_13 e178_14 e178_15 e178_16 e178_17 e178_18 e178_19 e178_20 e178_21 e178_22 e178_23 e178_24 q178
                unfold rng at hv178
                unfold post_X14_node_t at q178
                obtain ⟨q178_1, q178_2, q178_3, q178_4, q178_5, q178_6, q178_7, q178_8, q178_9⟩ := q178
                (try simp only [NBP, NBQ] at q178_1 q178_2 q178_3 q178_4 q178_5 q178_6 q178_7 q178_8 q178_9 e178_0 e178_1 e178_2 e178_3 e178_4 e178_5 e178_6 e178_7 e178_8 e178_9 e178_10 e178_11 e178_12 e178_13 e178_14 e178_15 e178_16 e178_17 e178_18 e178_19 e178_20 e178_21 e178_22 e178_23 e178_24)
                have Ks178 : rR s178 7 = rR σ 7 := by (try simp only [rR_sF, rR_sA, rR_sT, rR_sL] at e178_0 e178_1 e178_2 e178_3 e178_4 e178_5 e178_6 e178_7 e178_8 e178_9 e178_10 e178_11 e178_12 e178_13 e178_14 e178_15 e178_16 e178_17 e178_18 e178_19 e178_20 e178_21 e178_22 e178_23 e178_24); omega
                have zr178 := fz_rng s178
                have A178 : Im (fz s178 = 0) (RG σ s178 (rR σ 7) 0) := fun hf => RG.trk hp_2 ((fun _ => RG.rf) (by omega)) q178_3 (by omega)
                obtain ⟨g178, X178⟩ := EN_32 (P := fz s178 = 0) (rF σ 0 29) (rF σ 0 31) hp_2 (fun hf => hp_8 (by omega)) (fun hf => q178_3) q178_1 q178_2 q178_4 q178_5 q178_6 q178_9 (fun hf => by (try simp only [rF_sT, rF_sA]); (repeat' (with_reducible apply And.intro)) <;> first | trivial | omega)
                have Ku3 : Im (fz s178 = 0) (GK g g178 (rF σ (rR σ 7) 7) (rF s178 (rR σ 7) 7) 0) := fun hf => GK.gs ((fun _ => GK.rf) (by omega)) (X178 hf).2.1
                have Gu4 : Im (fz s178 = 0) _ := fun hf => (X178 hf).1
                have O178 : Im (fz s178 = 0) _ := fun hf => (X178 hf).2.2.1
                have rNMp_178 := e178_0 hp_5; clear e178_0
                have TPRp_178 := e178_1 hC1; clear e178_1
                have WNp_178 := e178_2 hp_6; clear e178_2
                have PNp_178 := e178_3 hp_7; clear e178_3
                have CCp_178 := e178_4 hp_3; clear e178_4
                intro hr_; unfold rng at hr_
                intro hr_; unfold rng at hr_
                refine ⟨(by (try simp only [pre_X14_wordEnd_t, Ks178]); (all_goals (repeat' (first | with_reducible intro _ | with_reducible apply And.intro | with_reducible refine Exists.intro g178 ?_ | with_reducible refine Im.and ?_ ?_))); all_goals (first | assumption | trivial | (unfold NBP; (try simp only [Ks178]); omega) | (unfold NBQ; (try simp only [Ks178]); omega) | omega | (exact fun hf_ => (A178 (by omega))) | (exact fun hf_ => Gu4 (by omega)) | (exact fun hf_ => Ku3 (by omega)) | (exact fun hf_ => (O178 (by omega)).cst) | (exact fun _ => ok1.i) | (exact fun hf_ => LI.z (fun h => absurd h (by decide))) | (exact fun hf_ => absurd hf_ (by omega)) | (exact fun hf_ => by omega) | (have zz_ := fz_z (by assumption); omega) | (split <;> omega) | done)), ?_⟩
                intro v195 hv195 q195
                unfold rng at hv195
                unfold post_X14_wordEnd_t at q195
                obtain ⟨q195_1, q195_2, q195_3, q195_4⟩ := q195
                (try simp only [Ks178, NBP, NBQ] at q195_1 q195_2 q195_3 q195_4)
                have w_ : rF σ 0 29 < v195 := by
                  have et : rA s178 1026 (rF σ 0 29) = rA σ 1026 (rF σ 0 29) := (show ∀ i, rA s178 1026 i = rA σ 1026 i by assumption) _
                  have hl := (by first | exact q141_3 ⟨by omega, by decide⟩ | exact q151_3 ⟨by omega, by decide⟩)
                  exact q195_4 ⟨by omega, by rw [et]; exact hl.2⟩
                obtain ⟨gu5, Xu6⟩ := EC_32 (P := fz s178 = 0) v195 (fun hf => Gu4 (by omega)) (fun hf => O178 (by omega)) (fun hf => by omega)
                have O178u7 : Im (fz s178 = 0) _ := fun hf => (Xu6 hf).2.1
                have Ku8 : Im (fz s178 = 0) (GK g gu5 (rF σ (rR σ 7) 7) (rF s178 (rR σ 7) 7) 0) := fun hf => GK.kc (Ku3 (by omega)) (Xu6 hf).2.2 (by omega)
                have Gu9 : Im (fz s178 = 0) _ := fun hf => (Xu6 hf).1
                exact (by (try simp only [post_X14_readPrimary, reduceIte, and_true, true_and, and_false, false_and, and_self, Nat.reduceEqDiff, fz_sF29, rF_sF, rA_sF, rR_sF, tr_sF, rNMp_sF, PNp_sF, GS_F29, OP_F29, NR_F29, LI_F29, RG_l29, RG_r29, TPRp_sF29, WNp_sF29, VMp_sF29, KYp_sF29, PPp_sF29, WFp_sF29, CCp_sF29, rk_n0 hp_2, Ks178]); (all_goals (repeat' (first | with_reducible intro _ | with_reducible apply And.intro | with_reducible refine Exists.intro gu5 ?_ | with_reducible refine Im.and ?_ ?_))); all_goals (first | assumption | trivial | (unfold NBP; (try simp only [reduceIte, and_true, true_and, and_false, false_and, and_self, Nat.reduceEqDiff, fz_sF29, rF_sF, rA_sF, rR_sF, tr_sF, rNMp_sF, PNp_sF, GS_F29, OP_F29, NR_F29, LI_F29, RG_l29, RG_r29, TPRp_sF29, WNp_sF29, VMp_sF29, KYp_sF29, PPp_sF29, WFp_sF29, CCp_sF29, rk_n0 hp_2, Ks178]); omega) | (unfold NBQ; (try simp only [reduceIte, and_true, true_and, and_false, false_and, and_self, Nat.reduceEqDiff, fz_sF29, rF_sF, rA_sF, rR_sF, tr_sF, rNMp_sF, PNp_sF, GS_F29, OP_F29, NR_F29, LI_F29, RG_l29, RG_r29, TPRp_sF29, WNp_sF29, VMp_sF29, KYp_sF29, PPp_sF29, WFp_sF29, CCp_sF29, rk_n0 hp_2, Ks178]); omega) | omega | (exact fun hf_ => (A178 (by omega))) | (exact fun hf_ => Gu9 (by omega)) | (exact fun hf_ => Ku8 (by omega)) | (exact fun hf_ => (O178u7 (by omega)).cst) | (exact fun _ => ok1.i) | (exact fun hf_ => LI.z (fun h => absurd h (by decide))) | (exact fun hf_ => absurd hf_ (by omega)) | (exact fun hf_ => by omega) | (have zz_ := fz_z (by assumption); omega) | (split <;> omega) | done))
              · refine ⟨(by (try simp only [pre_X14_node_t]); (all_goals (repeat' (first | with_reducible intro _ | with_reducible apply And.intro | with_reducible refine Exists.intro g ?_ | with_reducible refine Im.and ?_ ?_))); all_goals (first | assumption | trivial | (unfold NBP; omega) | (unfold NBQ; omega) | omega | (exact fun hf_ => ((fun _ => RG.rf) (by omega))) | (exact fun hf_ => hp_8 (by omega)) | (exact fun hf_ => (fun _ => GK.rf) (by omega)) | (exact fun _ => ok1.i) | (exact fun hf_ => LI.z (fun h => absurd h (by decide))) | (exact fun hf_ => absurd hf_ (by omega)) | (exact fun hf_ => by omega) | (have zz_ := fz_z (by assumption); omega) | (split <;> omega) | done)), ?_⟩
                intro v178 s178 hv178 Ws178 e178_0 e178_1 e178_2 e178_3 e178_4 e178_5 e178_6 e178_7 e178_8 e178_9 e178_10 e178_11 e178_12 e178_13 e178_14 e178_15 e178_16 e178_17 e178_18 e178_19 e178_20 e178_21 e178_22 e178_23 e178_24 q178
                unfold rng at hv178
                unfold post_X14_node_t at q178
                obtain ⟨q178_1, q178_2, q178_3, q178_4, q178_5, q178_6, q178_7, q178_8, q178_9⟩ := q178
                (try simp only [NBP, NBQ] at q178_1 q178_2 q178_3 q178_4 q178_5 q178_6 q178_7 q178_8 q178_9 e178_0 e178_1 e178_2 e178_3 e178_4 e178_5 e178_6 e178_7 e178_8 e178_9 e178_10 e178_11 e178_12 e178_13 e178_14 e178_15 e178_16 e178_17 e178_18 e178_19 e178_20 e178_21 e178_22 e178_23 e178_24)
                have Ks178 : rR s178 7 = rR σ 7 := by (try simp only [rR_sF, rR_sA, rR_sT, rR_sL] at e178_0 e178_1 e178_2 e178_3 e178_4 e178_5 e178_6 e178_7 e178_8 e178_9 e178_10 e178_11 e178_12 e178_13 e178_14 e178_15 e178_16 e178_17 e178_18 e178_19 e178_20 e178_21 e178_22 e178_23 e178_24); omega
                have zr178 := fz_rng s178
                have A178 : Im (fz s178 = 0) (RG σ s178 (rR σ 7) 0) := fun hf => RG.trk hp_2 ((fun _ => RG.rf) (by omega)) q178_3 (by omega)
                obtain ⟨g178, X178⟩ := EN_31 (P := fz s178 = 0) (rF σ 0 29) (rF σ 0 31) hp_2 (fun hf => hp_8 (by omega)) (fun hf => q178_3) q178_1 q178_2 q178_4 q178_5 q178_6 q178_9 (fun hf => by (try simp only [rF_sT, rF_sA]); (repeat' (with_reducible apply And.intro)) <;> first | trivial | omega)
                have Ku10 : Im (fz s178 = 0) (GK g g178 (rF σ (rR σ 7) 7) (rF s178 (rR σ 7) 7) 0) := fun hf => GK.gs ((fun _ => GK.rf) (by omega)) (X178 hf).2.1
                have Gu11 : Im (fz s178 = 0) _ := fun hf => (X178 hf).1
                have O178 : Im (fz s178 = 0) _ := fun hf => (X178 hf).2.2.1
                have rNMp_178 := e178_0 hp_5; clear e178_0
                have TPRp_178 := e178_1 hC1; clear e178_1
                have WNp_178 := e178_2 hp_6; clear e178_2
                have PNp_178 := e178_3 hp_7; clear e178_3
                have CCp_178 := e178_4 hp_3; clear e178_4
                intro hr_; unfold rng at hr_
                intro hr_; unfold rng at hr_
                refine ⟨(by (try simp only [pre_X14_wordEnd_t, Ks178]); (all_goals (repeat' (first | with_reducible intro _ | with_reducible apply And.intro | with_reducible refine Exists.intro g178 ?_ | with_reducible refine Im.and ?_ ?_))); all_goals (first | assumption | trivial | (unfold NBP; (try simp only [Ks178]); omega) | (unfold NBQ; (try simp only [Ks178]); omega) | omega | (exact fun hf_ => (A178 (by omega))) | (exact fun hf_ => Gu11 (by omega)) | (exact fun hf_ => Ku10 (by omega)) | (exact fun hf_ => (O178 (by omega)).cst) | (exact fun _ => ok1.i) | (exact fun hf_ => LI.z (fun h => absurd h (by decide))) | (exact fun hf_ => absurd hf_ (by omega)) | (exact fun hf_ => by omega) | (have zz_ := fz_z (by assumption); omega) | (split <;> omega) | done)), ?_⟩
                intro v195 hv195 q195
                unfold rng at hv195
                unfold post_X14_wordEnd_t at q195
                obtain ⟨q195_1, q195_2, q195_3, q195_4⟩ := q195
                (try simp only [Ks178, NBP, NBQ] at q195_1 q195_2 q195_3 q195_4)
                have w_ : rF σ 0 29 < v195 := by
                  have et : rA s178 1026 (rF σ 0 29) = rA σ 1026 (rF σ 0 29) := (show ∀ i, rA s178 1026 i = rA σ 1026 i by assumption) _
                  have hl := (by first | exact q141_3 ⟨by omega, by decide⟩ | exact q151_3 ⟨by omega, by decide⟩)
                  exact q195_4 ⟨by omega, by rw [et]; exact hl.2⟩
                obtain ⟨gu12, Xu13⟩ := EC_31 (P := fz s178 = 0) v195 (fun hf => Gu11 (by omega)) (fun hf => O178 (by omega)) (fun hf => by omega)
                have O178u14 : Im (fz s178 = 0) _ := fun hf => (Xu13 hf).2.1
                have Ku15 : Im (fz s178 = 0) (GK g gu12 (rF σ (rR σ 7) 7) (rF s178 (rR σ 7) 7) 0) := fun hf => GK.kc (Ku10 (by omega)) (Xu13 hf).2.2 (by omega)
                have Gu16 : Im (fz s178 = 0) _ := fun hf => (Xu13 hf).1
                exact (by (try simp only [post_X14_readPrimary, reduceIte, and_true, true_and, and_false, false_and, and_self, Nat.reduceEqDiff, fz_sF29, rF_sF, rA_sF, rR_sF, tr_sF, rNMp_sF, PNp_sF, GS_F29, OP_F29, NR_F29, LI_F29, RG_l29, RG_r29, TPRp_sF29, WNp_sF29, VMp_sF29, KYp_sF29, PPp_sF29, WFp_sF29, CCp_sF29, rk_n0 hp_2, Ks178]); (all_goals (repeat' (first | with_reducible intro _ | with_reducible apply And.intro | with_reducible refine Exists.intro gu12 ?_ | with_reducible refine Im.and ?_ ?_))); all_goals (first | assumption | trivial | (unfold NBP; (try simp only [reduceIte, and_true, true_and, and_false, false_and, and_self, Nat.reduceEqDiff, fz_sF29, rF_sF, rA_sF, rR_sF, tr_sF, rNMp_sF, PNp_sF, GS_F29, OP_F29, NR_F29, LI_F29, RG_l29, RG_r29, TPRp_sF29, WNp_sF29, VMp_sF29, KYp_sF29, PPp_sF29, WFp_sF29, CCp_sF29, rk_n0 hp_2, Ks178]); omega) | (unfold NBQ; (try simp only [reduceIte, and_true, true_and, and_false, false_and, and_self, Nat.reduceEqDiff, fz_sF29, rF_sF, rA_sF, rR_sF, tr_sF, rNMp_sF, PNp_sF, GS_F29, OP_F29, NR_F29, LI_F29, RG_l29, RG_r29, TPRp_sF29, WNp_sF29, VMp_sF29, KYp_sF29, PPp_sF29, WFp_sF29, CCp_sF29, rk_n0 hp_2, Ks178]); omega) | omega | (exact fun hf_ => (A178 (by omega))) | (exact fun hf_ => Gu16 (by omega)) | (exact fun hf_ => Ku15 (by omega)) | (exact fun hf_ => (O178u14 (by omega)).cst) | (exact fun _ => ok1.i) | (exact fun hf_ => LI.z (fun h => absurd h (by decide))) | (exact fun hf_ => absurd hf_ (by omega)) | (exact fun hf_ => by omega) | (have zz_ := fz_z (by assumption); omega) | (split <;> omega) | done))
            · refine ⟨(by (try simp only [pre_X14_isWord_t]); (all_goals (repeat' (first | with_reducible intro _ | with_reducible apply And.intro | with_reducible refine Exists.intro g ?_ | with_reducible refine Im.and ?_ ?_))); all_goals (first | assumption | trivial | (unfold NBP; omega) | (unfold NBQ; omega) | omega | (exact fun hf_ => ((fun _ => RG.rf) (by omega))) | (exact fun hf_ => hp_8 (by omega)) | (exact fun hf_ => (fun _ => GK.rf) (by omega)) | (exact fun _ => ok1.i) | (exact fun hf_ => LI.z (fun h => absurd h (by decide))) | (exact fun hf_ => absurd hf_ (by omega)) | (exact fun hf_ => by omega) | (have zz_ := fz_z (by assumption); omega) | (split <;> omega) | done)), ?_⟩
              intro v151 hv151 q151
              unfold rng at hv151
              unfold post_X14_isWord_t at q151
              obtain ⟨q151_1, q151_2, q151_3⟩ := q151
              (try simp only [NBP, NBQ] at q151_1 q151_2 q151_3)
              refine ⟨fun c154 => ?_, fun c154 => ?_⟩
              · refine ⟨(by (try simp only [pre_X14_function_t]); (all_goals (repeat' (first | with_reducible intro _ | with_reducible apply And.intro | with_reducible refine Exists.intro g ?_ | with_reducible refine Im.and ?_ ?_))); all_goals (first | assumption | trivial | (unfold NBP; omega) | (unfold NBQ; omega) | omega | (exact fun hf_ => ((fun _ => RG.rf) (by omega))) | (exact fun hf_ => hp_8 (by omega)) | (exact fun hf_ => (fun _ => GK.rf) (by omega)) | (exact fun _ => ok1.i) | (exact fun hf_ => LI.z (fun h => absurd h (by decide))) | (exact fun hf_ => absurd hf_ (by omega)) | (exact fun hf_ => by omega) | (have zz_ := fz_z (by assumption); omega) | (split <;> omega) | done)), ?_⟩
                intro v204 hv204 q204
                unfold rng at hv204
                unfold post_X14_function_t at q204
                obtain ⟨q204_1, q204_2, q204_3⟩ := q204
                (try simp only [NBP, NBQ] at q204_1 q204_2 q204_3)
                refine ⟨fun c207 => ?_, fun c207 => ?_⟩
                · refine ⟨(by (try simp only [pre_X14_isWord_t]); (all_goals (repeat' (first | with_reducible intro _ | with_reducible apply And.intro | with_reducible refine Exists.intro g ?_ | with_reducible refine Im.and ?_ ?_))); all_goals (first | assumption | trivial | (unfold NBP; omega) | (unfold NBQ; omega) | omega | (exact fun hf_ => ((fun _ => RG.rf) (by omega))) | (exact fun hf_ => hp_8 (by omega)) | (exact fun hf_ => (fun _ => GK.rf) (by omega)) | (exact fun _ => ok1.i) | (exact fun hf_ => LI.z (fun h => absurd h (by decide))) | (exact fun hf_ => absurd hf_ (by omega)) | (exact fun hf_ => by omega) | (have zz_ := fz_z (by assumption); omega) | (split <;> omega) | done)), ?_⟩
                  intro v273 hv273 q273
                  unfold rng at hv273
                  unfold post_X14_isWord_t at q273
                  obtain ⟨q273_1, q273_2, q273_3⟩ := q273
                  (try simp only [NBP, NBQ] at q273_1 q273_2 q273_3)
                  refine ⟨fun c276 => ?_, fun c276 => ?_⟩
                  · refine ⟨g, ?_⟩
                    refine ⟨36, ?_⟩
                    refine ⟨(by (try simp only [pre_X14_readCall]); (all_goals (repeat' (first | with_reducible intro _ | with_reducible apply And.intro | with_reducible refine Exists.intro g ?_ | with_reducible refine Im.and ?_ ?_))); all_goals (first | assumption | trivial | (unfold NBP; omega) | (unfold NBQ; omega) | omega | (exact fun hf_ => ((fun _ => RG.rf) (by omega))) | (exact fun hf_ => hp_8 (by omega)) | (exact fun hf_ => (fun _ => GK.rf) (by omega)) | (exact fun _ => ok1.i) | (exact fun hf_ => LI.z (fun h => absurd h (by decide))) | (exact fun hf_ => absurd hf_ (by omega)) | (exact fun hf_ => by omega) | (have zz_ := fz_z (by assumption); omega) | (split <;> omega) | done)), ?_⟩
                    refine ⟨(by (try simp only [rk_X14_readCall]); (all_goals (repeat' (first | with_reducible intro _ | with_reducible apply And.intro | with_reducible refine Exists.intro g ?_ | with_reducible refine Im.and ?_ ?_))); all_goals (first | assumption | trivial | (unfold NBP; omega) | (unfold NBQ; omega) | omega | (exact fun hf_ => ((fun _ => RG.rf) (by omega))) | (exact fun hf_ => hp_8 (by omega)) | (exact fun hf_ => (fun _ => GK.rf) (by omega)) | (exact fun _ => ok1.i) | (exact fun hf_ => LI.z (fun h => absurd h (by decide))) | (exact fun hf_ => absurd hf_ (by omega)) | (exact fun hf_ => by omega) | (have zz_ := fz_z (by assumption); omega) | (split <;> omega) | done)), ?_⟩
                    intro v293 s293 hv293 Ws293 e293_0 e293_1 e293_2 e293_3 e293_4 e293_5 e293_6 e293_7 e293_8 e293_9 q293
                    unfold rng at hv293
                    unfold post_X14_readCall at q293
                    obtain ⟨q293_1, q293_2, q293_3, q293_4, q293_5, q293_6, q293_7, q293_8, q293_9⟩ := q293
                    (try simp only [NBP, NBQ] at q293_1 q293_2 q293_3 q293_4 q293_5 q293_6 q293_7 q293_8 q293_9 e293_0 e293_1 e293_2 e293_3 e293_4 e293_5 e293_6 e293_7 e293_8 e293_9)
                    have Ks293 : rR s293 7 = rR σ 7 := by (try simp only [rR_sF, rR_sA, rR_sT, rR_sL] at e293_0 e293_1 e293_2 e293_3 e293_4 e293_5 e293_6 e293_7 e293_8 e293_9); omega
                    have zr293 := fz_rng s293
                    have A293 : Im (fz s293 = 0) (RG σ s293 (rR σ 7) 0) := fun hf => RG.trk hp_2 ((fun _ => RG.rf) (by omega)) (q293_8 (by omega)) (by omega)
                    obtain ⟨g293, X293⟩ := q293_9
                    have Ku17 : Im (fz s293 = 0) (GK g g293 (rF σ (rR σ 7) 7) (rF s293 (rR σ 7) 7) 0) := fun hf => GK.trans ((fun _ => GK.rf) (by omega)) ((X293 hf).2.1) (by omega)
                    have Gu18 : Im (fz s293 = 0) (GS s293 (rR σ 7) g293) := fun hf => (X293 hf).1
                    have r293 : Im (fz s293 = 0) _ := fun hf => (X293 hf).2.2.1
                    have TPRp_293 := e293_0 hC1; clear e293_0
                    have CCp_293 := e293_1 hp_3; clear e293_1
                    exact (by (try simp only [post_X14_readPrimary, Ks293]); (all_goals (repeat' (first | with_reducible intro _ | with_reducible apply And.intro | with_reducible refine Exists.intro g293 ?_ | with_reducible refine Im.and ?_ ?_))); all_goals (first | assumption | trivial | (unfold NBP; (try simp only [Ks293]); omega) | (unfold NBQ; (try simp only [Ks293]); omega) | omega | (exact fun hf_ => (A293 (by omega))) | (exact fun hf_ => Gu18 (by omega)) | (exact fun hf_ => Ku17 (by omega)) | (exact fun hf_ => (r293 (by omega)).cst) | (exact fun _ => ok1.i) | (exact fun hf_ => LI.z (fun h => absurd h (by decide))) | (exact fun hf_ => absurd hf_ (by omega)) | (exact fun hf_ => by omega) | (have zz_ := fz_z (by assumption); omega) | (split <;> omega) | done))
                  · refine ⟨g, ?_⟩
                    refine ⟨36, ?_⟩
                    refine ⟨(by (try simp only [pre_X14_readCall]); (all_goals (repeat' (first | with_reducible intro _ | with_reducible apply And.intro | with_reducible refine Exists.intro g ?_ | with_reducible refine Im.and ?_ ?_))); all_goals (first | assumption | trivial | (unfold NBP; omega) | (unfold NBQ; omega) | omega | (exact fun hf_ => ((fun _ => RG.rf) (by omega))) | (exact fun hf_ => hp_8 (by omega)) | (exact fun hf_ => (fun _ => GK.rf) (by omega)) | (exact fun _ => ok1.i) | (exact fun hf_ => LI.z (fun h => absurd h (by decide))) | (exact fun hf_ => absurd hf_ (by omega)) | (exact fun hf_ => by omega) | (have zz_ := fz_z (by assumption); omega) | (split <;> omega) | done)), ?_⟩
                    refine ⟨(by (try simp only [rk_X14_readCall]); (all_goals (repeat' (first | with_reducible intro _ | with_reducible apply And.intro | with_reducible refine Exists.intro g ?_ | with_reducible refine Im.and ?_ ?_))); all_goals (first | assumption | trivial | (unfold NBP; omega) | (unfold NBQ; omega) | omega | (exact fun hf_ => ((fun _ => RG.rf) (by omega))) | (exact fun hf_ => hp_8 (by omega)) | (exact fun hf_ => (fun _ => GK.rf) (by omega)) | (exact fun _ => ok1.i) | (exact fun hf_ => LI.z (fun h => absurd h (by decide))) | (exact fun hf_ => absurd hf_ (by omega)) | (exact fun hf_ => by omega) | (have zz_ := fz_z (by assumption); omega) | (split <;> omega) | done)), ?_⟩
                    intro v283 s283 hv283 Ws283 e283_0 e283_1 e283_2 e283_3 e283_4 e283_5 e283_6 e283_7 e283_8 e283_9 q283
                    unfold rng at hv283
                    unfold post_X14_readCall at q283
                    obtain ⟨q283_1, q283_2, q283_3, q283_4, q283_5, q283_6, q283_7, q283_8, q283_9⟩ := q283
                    (try simp only [NBP, NBQ] at q283_1 q283_2 q283_3 q283_4 q283_5 q283_6 q283_7 q283_8 q283_9 e283_0 e283_1 e283_2 e283_3 e283_4 e283_5 e283_6 e283_7 e283_8 e283_9)
                    have Ks283 : rR s283 7 = rR σ 7 := by (try simp only [rR_sF, rR_sA, rR_sT, rR_sL] at e283_0 e283_1 e283_2 e283_3 e283_4 e283_5 e283_6 e283_7 e283_8 e283_9); omega
                    have zr283 := fz_rng s283
                    have A283 : Im (fz s283 = 0) (RG σ s283 (rR σ 7) 0) := fun hf => RG.trk hp_2 ((fun _ => RG.rf) (by omega)) (q283_8 (by omega)) (by omega)
                    obtain ⟨g283, X283⟩ := q283_9
                    have Ku19 : Im (fz s283 = 0) (GK g g283 (rF σ (rR σ 7) 7) (rF s283 (rR σ 7) 7) 0) := fun hf => GK.trans ((fun _ => GK.rf) (by omega)) ((X283 hf).2.1) (by omega)
                    have Gu20 : Im (fz s283 = 0) (GS s283 (rR σ 7) g283) := fun hf => (X283 hf).1
                    have r283 : Im (fz s283 = 0) _ := fun hf => (X283 hf).2.2.1
                    have TPRp_283 := e283_0 hC1; clear e283_0
                    have CCp_283 := e283_1 hp_3; clear e283_1
                    exact (by (try simp only [post_X14_readPrimary, Ks283]); (all_goals (repeat' (first | with_reducible intro _ | with_reducible apply And.intro | with_reducible refine Exists.intro g283 ?_ | with_reducible refine Im.and ?_ ?_))); all_goals (first | assumption | trivial | (unfold NBP; (try simp only [Ks283]); omega) | (unfold NBQ; (try simp only [Ks283]); omega) | omega | (exact fun hf_ => (A283 (by omega))) | (exact fun hf_ => Gu20 (by omega)) | (exact fun hf_ => Ku19 (by omega)) | (exact fun hf_ => (r283 (by omega)).cst) | (exact fun _ => ok1.i) | (exact fun hf_ => LI.z (fun h => absurd h (by decide))) | (exact fun hf_ => absurd hf_ (by omega)) | (exact fun hf_ => by omega) | (have zz_ := fz_z (by assumption); omega) | (split <;> omega) | done))
                · refine ⟨(by (try simp only [pre_X14_function_t]); (all_goals (repeat' (first | with_reducible intro _ | with_reducible apply And.intro | with_reducible refine Exists.intro g ?_ | with_reducible refine Im.and ?_ ?_))); all_goals (first | assumption | trivial | (unfold NBP; omega) | (unfold NBQ; omega) | omega | (exact fun hf_ => ((fun _ => RG.rf) (by omega))) | (exact fun hf_ => hp_8 (by omega)) | (exact fun hf_ => (fun _ => GK.rf) (by omega)) | (exact fun _ => ok1.i) | (exact fun hf_ => LI.z (fun h => absurd h (by decide))) | (exact fun hf_ => absurd hf_ (by omega)) | (exact fun hf_ => by omega) | (have zz_ := fz_z (by assumption); omega) | (split <;> omega) | done)), ?_⟩
                  intro v214 hv214 q214
                  unfold rng at hv214
                  unfold post_X14_function_t at q214
                  obtain ⟨q214_1, q214_2, q214_3⟩ := q214
                  (try simp only [NBP, NBQ] at q214_1 q214_2 q214_3)
                  refine ⟨(by (try simp only [pre_X14_node_t]); (all_goals (repeat' (first | with_reducible intro _ | with_reducible apply And.intro | with_reducible refine Exists.intro g ?_ | with_reducible refine Im.and ?_ ?_))); all_goals (first | assumption | trivial | (unfold NBP; omega) | (unfold NBQ; omega) | omega | (exact fun hf_ => ((fun _ => RG.rf) (by omega))) | (exact fun hf_ => hp_8 (by omega)) | (exact fun hf_ => (fun _ => GK.rf) (by omega)) | (exact fun _ => ok1.i) | (exact fun hf_ => LI.z (fun h => absurd h (by decide))) | (exact fun hf_ => absurd hf_ (by omega)) | (exact fun hf_ => by omega) | (have zz_ := fz_z (by assumption); omega) | (split <;> omega) | done)), ?_⟩
                  intro v219 s219 hv219 Ws219 e219_0 e219_1 e219_2 e219_3 e219_4 e219_5 e219_6 e219_7 e219_8 e219_9 e219_10 e219_11 e219_12 e219_13 e219_14 e219_15 e219_16 e219_17 e219_18 e219_19 e219_20 e219_21 e219_22 e219_23 e219_24 q219
                  unfold rng at hv219
                  unfold post_X14_node_t at q219
                  obtain ⟨q219_1, q219_2, q219_3, q219_4, q219_5, q219_6, q219_7, q219_8, q219_9⟩ := q219
                  (try simp only [NBP, NBQ] at q219_1 q219_2 q219_3 q219_4 q219_5 q219_6 q219_7 q219_8 q219_9 e219_0 e219_1 e219_2 e219_3 e219_4 e219_5 e219_6 e219_7 e219_8 e219_9 e219_10 e219_11 e219_12 e219_13 e219_14 e219_15 e219_16 e219_17 e219_18 e219_19 e219_20 e219_21 e219_22 e219_23 e219_24)
                  have Ks219 : rR s219 7 = rR σ 7 := by (try simp only [rR_sF, rR_sA, rR_sT, rR_sL] at e219_0 e219_1 e219_2 e219_3 e219_4 e219_5 e219_6 e219_7 e219_8 e219_9 e219_10 e219_11 e219_12 e219_13 e219_14 e219_15 e219_16 e219_17 e219_18 e219_19 e219_20 e219_21 e219_22 e219_23 e219_24); omega
                  have zr219 := fz_rng s219
                  have A219 : Im (fz s219 = 0) (RG σ s219 (rR σ 7) 0) := fun hf => RG.trk hp_2 ((fun _ => RG.rf) (by omega)) q219_3 (by omega)
                  obtain ⟨g219, X219⟩ := EN_38 (P := fz s219 = 0) (rF σ 0 29) (rF σ 0 31) hp_2 (fun hf => hp_8 (by omega)) (fun hf => q219_3) q219_1 q219_2 q219_4 q219_5 q219_6 q219_9 (fun hf => by (try simp only [rF_sT, rF_sA]); (repeat' (with_reducible apply And.intro)) <;> first | trivial | omega)
                  have Ku21 : Im (fz s219 = 0) (GK g g219 (rF σ (rR σ 7) 7) (rF s219 (rR σ 7) 7) 0) := fun hf => GK.gs ((fun _ => GK.rf) (by omega)) (X219 hf).2.1
                  have Gu22 : Im (fz s219 = 0) _ := fun hf => (X219 hf).1
                  have O219 : Im (fz s219 = 0) _ := fun hf => (X219 hf).2.2.1
                  have rNMp_219 := e219_0 hp_5; clear e219_0
                  have TPRp_219 := e219_1 hC1; clear e219_1
                  have WNp_219 := e219_2 hp_6; clear e219_2
                  have PNp_219 := e219_3 hp_7; clear e219_3
                  have CCp_219 := e219_4 hp_3; clear e219_4
                  intro hr_; unfold rng at hr_
                  intro hr_; unfold rng at hr_
                  refine ⟨(by (try simp only [pre_X14_wordEnd_t, Ks219]); (all_goals (repeat' (first | with_reducible intro _ | with_reducible apply And.intro | with_reducible refine Exists.intro g219 ?_ | with_reducible refine Im.and ?_ ?_))); all_goals (first | assumption | trivial | (unfold NBP; (try simp only [Ks219]); omega) | (unfold NBQ; (try simp only [Ks219]); omega) | omega | (exact fun hf_ => (A219 (by omega))) | (exact fun hf_ => Gu22 (by omega)) | (exact fun hf_ => Ku21 (by omega)) | (exact fun hf_ => (O219 (by omega)).cst) | (exact fun _ => ok1.i) | (exact fun hf_ => LI.z (fun h => absurd h (by decide))) | (exact fun hf_ => absurd hf_ (by omega)) | (exact fun hf_ => by omega) | (have zz_ := fz_z (by assumption); omega) | (split <;> omega) | done)), ?_⟩
                  intro v236 hv236 q236
                  unfold rng at hv236
                  unfold post_X14_wordEnd_t at q236
                  obtain ⟨q236_1, q236_2, q236_3, q236_4⟩ := q236
                  (try simp only [Ks219, NBP, NBQ] at q236_1 q236_2 q236_3 q236_4)
                  have w_ : rF σ 0 29 < v236 := by
                    have et : rA s219 1026 (rF σ 0 29) = rA σ 1026 (rF σ 0 29) := (show ∀ i, rA s219 1026 i = rA σ 1026 i by assumption) _
                    have hl := q204_3 (by omega)
                    exact q236_4 ⟨by omega, by rw [et]; exact hl.2⟩
                  refine ⟨(by (try simp only [pre_X14_need, reduceIte, and_true, true_and, and_false, false_and, and_self, Nat.reduceEqDiff, fz_sF29, rF_sF, rA_sF, rR_sF, tr_sF, rNMp_sF, PNp_sF, GS_F29, OP_F29, NR_F29, LI_F29, RG_l29, RG_r29, TPRp_sF29, WNp_sF29, VMp_sF29, KYp_sF29, PPp_sF29, WFp_sF29, CCp_sF29, rk_n0 hp_2, Ks219]); (all_goals (repeat' (first | with_reducible intro _ | with_reducible apply And.intro | with_reducible refine Exists.intro g219 ?_ | with_reducible refine Im.and ?_ ?_))); all_goals (first | assumption | trivial | (unfold NBP; (try simp only [reduceIte, and_true, true_and, and_false, false_and, and_self, Nat.reduceEqDiff, fz_sF29, rF_sF, rA_sF, rR_sF, tr_sF, rNMp_sF, PNp_sF, GS_F29, OP_F29, NR_F29, LI_F29, RG_l29, RG_r29, TPRp_sF29, WNp_sF29, VMp_sF29, KYp_sF29, PPp_sF29, WFp_sF29, CCp_sF29, rk_n0 hp_2, Ks219]); omega) | (unfold NBQ; (try simp only [reduceIte, and_true, true_and, and_false, false_and, and_self, Nat.reduceEqDiff, fz_sF29, rF_sF, rA_sF, rR_sF, tr_sF, rNMp_sF, PNp_sF, GS_F29, OP_F29, NR_F29, LI_F29, RG_l29, RG_r29, TPRp_sF29, WNp_sF29, VMp_sF29, KYp_sF29, PPp_sF29, WFp_sF29, CCp_sF29, rk_n0 hp_2, Ks219]); omega) | omega | (exact fun hf_ => (A219 (by omega))) | (exact fun hf_ => Gu22 (by omega)) | (exact fun hf_ => Ku21 (by omega)) | (exact fun hf_ => (O219 (by omega)).cst) | (exact fun _ => ok1.i) | (exact fun hf_ => LI.z (fun h => absurd h (by decide))) | (exact fun hf_ => absurd hf_ (by omega)) | (exact fun hf_ => by omega) | (have zz_ := fz_z (by assumption); omega) | (split <;> omega) | done)), ?_⟩
                  intro s245 Ws245 e245_0 e245_1 e245_2 e245_3 e245_4 e245_5 e245_6 e245_7 e245_8 e245_9 e245_10 e245_11 e245_12 e245_13 e245_14 e245_15 e245_16 e245_17 e245_18 e245_19 e245_20 e245_21 e245_22 R245 q245
                  have q245 := dig_need q245 (by (try simp only [reduceIte, and_true, true_and, and_false, false_and, and_self, Nat.reduceEqDiff, fz_sF29, rF_sF, rA_sF, rR_sF, tr_sF, rNMp_sF, PNp_sF, GS_F29, OP_F29, NR_F29, LI_F29, RG_l29, RG_r29, TPRp_sF29, WNp_sF29, VMp_sF29, KYp_sF29, PPp_sF29, WFp_sF29, CCp_sF29, rk_n0 hp_2, Ks219]); omega)
                  obtain ⟨q245_1, q245_2, q245_3, q245_4⟩ := q245
                  (try simp only [reduceIte, and_true, true_and, and_false, false_and, and_self, Nat.reduceEqDiff, fz_sF29, rF_sF, rA_sF, rR_sF, tr_sF, rNMp_sF, PNp_sF, GS_F29, OP_F29, NR_F29, LI_F29, RG_l29, RG_r29, TPRp_sF29, WNp_sF29, VMp_sF29, KYp_sF29, PPp_sF29, WFp_sF29, CCp_sF29, rk_n0 hp_2, Ks219, NBP, NBQ] at q245_1 q245_2 q245_3 q245_4 e245_0 e245_1 e245_2 e245_3 e245_4 e245_5 e245_6 e245_7 e245_8 e245_9 e245_10 e245_11 e245_12 e245_13 e245_14 e245_15 e245_16 e245_17 e245_18 e245_19 e245_20 e245_21 e245_22 R245)
                  have Ks245 : rR s245 7 = rR σ 7 := by (try simp only [rR_sF, rR_sA, rR_sT, rR_sL] at e245_0 e245_1 e245_2 e245_3 e245_4 e245_5 e245_6 e245_7 e245_8 e245_9 e245_10 e245_11 e245_12 e245_13 e245_14 e245_15 e245_16 e245_17 e245_18 e245_19 e245_20 e245_21 e245_22 R245); omega
                  have zr245 := fz_rng s245
                  have A245 : Im (fz s245 = 0) (RG σ s245 (rR σ 7) 0) := fun hf => RG.trk hp_2 (A219 (by omega)) R245 (by omega)
                  have O219u23 : Im (fz s245 = 0) _ := fun hf => OP.gk0 (O219 (by omega)) (GK.up (g := g219) (N := rF s219 (rR σ 7) 7) (N' := rF s245 (rR σ 7) 7) (c := 0) (by first | omega | (simp only [rF_sT, rF_sA]; omega)))
                  have Ku24 : Im (fz s245 = 0) (GK g g219 (rF σ (rR σ 7) 7) (rF s245 (rR σ 7) 7) 0) := fun hf => GK.trans (Ku21 (by omega)) (GK.up (N := rF s219 (rR σ 7) 7) (N' := rF s245 (rR σ 7) 7) (c := 0) (by first | omega | (simp only [rF_sT, rF_sA]; omega))) (by omega)
                  have Gu25 : Im (fz s245 = 0) (GS s245 (rR σ 7) g219) := fun hf => GS.mv hp_2 (Gu22 (by omega)) R245
                  have rNMp_245 := e245_0 rNMp_219; clear e245_0
                  have TPRp_245 := e245_1 TPRp_219; clear e245_1
                  have WNp_245 := e245_2 WNp_219; clear e245_2
                  have PNp_245 := e245_3 PNp_219; clear e245_3
                  have CCp_245 := e245_4 CCp_219; clear e245_4
                  refine ⟨g219, ?_⟩
                  refine ⟨(by (try simp only [pre_X14_readArg, Ks245]); (all_goals (repeat' (first | with_reducible intro _ | with_reducible apply And.intro | with_reducible refine Exists.intro g219 ?_ | with_reducible refine Im.and ?_ ?_))); all_goals (first | assumption | trivial | (unfold NBP; (try simp only [Ks245]); omega) | (unfold NBQ; (try simp only [Ks245]); omega) | omega | (exact fun hf_ => (A245 (by omega))) | (exact fun hf_ => Gu25 (by omega)) | (exact fun hf_ => Ku24 (by omega)) | (exact fun hf_ => (O219u23 (by omega)).cst) | (exact fun _ => ok1.i) | (exact fun hf_ => LI.z (fun h => absurd h (by decide))) | (exact fun hf_ => absurd hf_ (by omega)) | (exact fun hf_ => by omega) | (have zz_ := fz_z (by assumption); omega) | (split <;> omega) | done)), ?_⟩
                  refine ⟨(by (try simp only [rk_X14_readArg, Ks245]); (all_goals (repeat' (first | with_reducible intro _ | with_reducible apply And.intro | with_reducible refine Exists.intro g219 ?_ | with_reducible refine Im.and ?_ ?_))); all_goals (first | assumption | trivial | (unfold NBP; (try simp only [Ks245]); omega) | (unfold NBQ; (try simp only [Ks245]); omega) | omega | (exact fun hf_ => (A245 (by omega))) | (exact fun hf_ => Gu25 (by omega)) | (exact fun hf_ => Ku24 (by omega)) | (exact fun hf_ => (O219u23 (by omega)).cst) | (exact fun _ => ok1.i) | (exact fun hf_ => LI.z (fun h => absurd h (by decide))) | (exact fun hf_ => absurd hf_ (by omega)) | (exact fun hf_ => by omega) | (have zz_ := fz_z (by assumption); omega) | (split <;> omega) | done)), ?_⟩
                  intro v257 s257 hv257 Ws257 e257_0 e257_1 e257_2 e257_3 e257_4 e257_5 e257_6 e257_7 e257_8 e257_9 q257
                  unfold rng at hv257
                  unfold post_X14_readArg at q257
                  obtain ⟨q257_1, q257_2, q257_3, q257_4, q257_5, q257_6, q257_7, q257_8, q257_9⟩ := q257
                  (try simp only [Ks245, NBP, NBQ] at q257_1 q257_2 q257_3 q257_4 q257_5 q257_6 q257_7 q257_8 q257_9 e257_0 e257_1 e257_2 e257_3 e257_4 e257_5 e257_6 e257_7 e257_8 e257_9)
                  have Ks257 : rR s257 7 = rR σ 7 := by (try simp only [rR_sF, rR_sA, rR_sT, rR_sL] at e257_0 e257_1 e257_2 e257_3 e257_4 e257_5 e257_6 e257_7 e257_8 e257_9); omega
                  have zr257 := fz_rng s257
                  have A257 : Im (fz s257 = 0) (RG σ s257 (rR σ 7) 0) := fun hf => RG.trk hp_2 (A245 (by omega)) (q257_8 (by omega)) (by omega)
                  obtain ⟨g257, X257⟩ := q257_9
                  have O219u26 : Im (fz s257 = 0) _ := fun hf => OP.gk0 (O219u23 (by omega)) ((X257 hf).2.1)
                  have Ku27 : Im (fz s257 = 0) (GK g g257 (rF σ (rR σ 7) 7) (rF s257 (rR σ 7) 7) 0) := fun hf => GK.trans (Ku24 (by omega)) ((X257 hf).2.1) (by omega)
                  have Gu28 : Im (fz s257 = 0) (GS s257 (rR σ 7) g257) := fun hf => (X257 hf).1
                  have r257 : Im (fz s257 = 0) _ := fun hf => (X257 hf).2.2.1
                  have TPRp_257 := e257_0 TPRp_245; clear e257_0
                  have CCp_257 := e257_1 CCp_245; clear e257_1
                  refine ⟨(by (try simp only [Ks257]); (all_goals (repeat' (first | with_reducible intro _ | with_reducible apply And.intro | with_reducible refine Exists.intro g257 ?_ | with_reducible refine Im.and ?_ ?_))); all_goals (first | assumption | trivial | (unfold NBP; (try simp only [Ks257]); omega) | (unfold NBQ; (try simp only [Ks257]); omega) | omega | (exact fun hf_ => (A257 (by omega))) | (exact fun hf_ => Gu28 (by omega)) | (exact fun hf_ => Ku27 (by omega)) | (exact fun hf_ => (O219u26 (by omega)).cst) | (exact fun hf_ => (r257 (by omega)).cst) | (exact fun _ => ok1.i) | (exact fun hf_ => LI.z (fun h => absurd h (by decide))) | (exact fun hf_ => absurd hf_ (by omega)) | (exact fun hf_ => by omega) | (have zz_ := fz_z (by assumption); omega) | (split <;> omega) | done)), ?_⟩
                  have A260 : Im (fz s257 = 0) (RG σ (sT s257 (rR σ 7) 2 v219 v257) (rR σ 7) 0) := fun hf => RG.tst (f := 2) (i := v219) (x := v257) hp_2 (A257 (by omega)) (by decide) (by omega)
                  obtain ⟨gs260, Xs260⟩ := EH_2_38 (P := fz s257 = 0) hp_2 (fun hf => Gu28 (by omega)) (fun hf => O219u26 (by omega)) (fun hf => r257 (by omega)) (fun _ h => h) (fun hf => by omega)
                  have Ku29 : Im (fz s257 = 0) (GK g gs260 (rF σ (rR σ 7) 7) (rF s257 (rR σ 7) 7) 0) := fun hf => GK.ks (Ku27 (by omega)) (Xs260 hf).2.2.2.1 (by omega) (by omega)
                  have Gu30 : Im (fz s257 = 0) _ := fun hf => (Xs260 hf).1
                  have O219u31 : Im (fz s257 = 0) _ := fun hf => (Xs260 hf).2.1
                  have L260u32 : Im (fz s257 = 0) _ := fun hf => (Xs260 hf).2.2.1
                  refine ⟨(by (try simp only [pre_X14_need, reduceIte, and_true, true_and, and_false, false_and, and_self, Nat.reduceEqDiff, fz_sA, rF_sA, rA_sA, rR_sA, rF_sT, rR_sT, sT_sF, fz_sT, rA_sT26 hp_2, rA_sT27 hp_2, rA_sT34 hp_2, rA_sT35 hp_2, rA_sT36 hp_2, rA_sT37 hp_2, rA_sT40 hp_2, TPRp_sT hp_2, WNp_sT hp_2, VMp_sT hp_2, KYp_sT hp_2, PPp_sT hp_2, WFp_sT hp_2, CCp_sT hp_2, rNMp_sT2, PNp_sT2, rk_n0 hp_2, Ks257]); (all_goals (repeat' (first | with_reducible intro _ | with_reducible apply And.intro | with_reducible refine Exists.intro gs260 ?_ | with_reducible refine Im.and ?_ ?_))); all_goals (first | assumption | trivial | (unfold NBP; (try simp only [reduceIte, and_true, true_and, and_false, false_and, and_self, Nat.reduceEqDiff, fz_sA, rF_sA, rA_sA, rR_sA, rF_sT, rR_sT, sT_sF, fz_sT, rA_sT26 hp_2, rA_sT27 hp_2, rA_sT34 hp_2, rA_sT35 hp_2, rA_sT36 hp_2, rA_sT37 hp_2, rA_sT40 hp_2, TPRp_sT hp_2, WNp_sT hp_2, VMp_sT hp_2, KYp_sT hp_2, PPp_sT hp_2, WFp_sT hp_2, CCp_sT hp_2, rNMp_sT2, PNp_sT2, rk_n0 hp_2, Ks257]); omega) | (unfold NBQ; (try simp only [reduceIte, and_true, true_and, and_false, false_and, and_self, Nat.reduceEqDiff, fz_sA, rF_sA, rA_sA, rR_sA, rF_sT, rR_sT, sT_sF, fz_sT, rA_sT26 hp_2, rA_sT27 hp_2, rA_sT34 hp_2, rA_sT35 hp_2, rA_sT36 hp_2, rA_sT37 hp_2, rA_sT40 hp_2, TPRp_sT hp_2, WNp_sT hp_2, VMp_sT hp_2, KYp_sT hp_2, PPp_sT hp_2, WFp_sT hp_2, CCp_sT hp_2, rNMp_sT2, PNp_sT2, rk_n0 hp_2, Ks257]); omega) | omega | (exact fun hf_ => (A260 (by omega))) | (exact fun hf_ => Gu30 (by omega)) | (exact fun hf_ => Ku29 (by omega)) | (exact fun hf_ => (O219u31 (by omega)).cst) | (exact fun hf_ => L260u32 (by omega)) | (exact fun _ => ok1.i) | (exact fun hf_ => LI.z (fun h => absurd h (by decide))) | (exact fun hf_ => absurd hf_ (by omega)) | (exact fun hf_ => by omega) | (have zz_ := fz_z (by assumption); omega) | (split <;> omega) | done)), ?_⟩
                  intro s264 Ws264 e264_0 e264_1 e264_2 e264_3 e264_4 e264_5 e264_6 e264_7 e264_8 e264_9 e264_10 e264_11 e264_12 e264_13 e264_14 e264_15 e264_16 e264_17 e264_18 e264_19 e264_20 e264_21 e264_22 R264 q264
                  have q264 := dig_need q264 (by (try simp only [reduceIte, and_true, true_and, and_false, false_and, and_self, Nat.reduceEqDiff, fz_sA, rF_sA, rA_sA, rR_sA, rF_sT, rR_sT, sT_sF, fz_sT, rA_sT26 hp_2, rA_sT27 hp_2, rA_sT34 hp_2, rA_sT35 hp_2, rA_sT36 hp_2, rA_sT37 hp_2, rA_sT40 hp_2, TPRp_sT hp_2, WNp_sT hp_2, VMp_sT hp_2, KYp_sT hp_2, PPp_sT hp_2, WFp_sT hp_2, CCp_sT hp_2, rNMp_sT2, PNp_sT2, rk_n0 hp_2, Ks257]); omega)
                  obtain ⟨q264_1, q264_2, q264_3, q264_4⟩ := q264
                  (try simp only [reduceIte, and_true, true_and, and_false, false_and, and_self, Nat.reduceEqDiff, fz_sA, rF_sA, rA_sA, rR_sA, rF_sT, rR_sT, sT_sF, fz_sT, rA_sT26 hp_2, rA_sT27 hp_2, rA_sT34 hp_2, rA_sT35 hp_2, rA_sT36 hp_2, rA_sT37 hp_2, rA_sT40 hp_2, TPRp_sT hp_2, WNp_sT hp_2, VMp_sT hp_2, KYp_sT hp_2, PPp_sT hp_2, WFp_sT hp_2, CCp_sT hp_2, rNMp_sT2, PNp_sT2, rk_n0 hp_2, Ks257, NBP, NBQ] at q264_1 q264_2 q264_3 q264_4 e264_0 e264_1 e264_2 e264_3 e264_4 e264_5 e264_6 e264_7 e264_8 e264_9 e264_10 e264_11 e264_12 e264_13 e264_14 e264_15 e264_16 e264_17 e264_18 e264_19 e264_20 e264_21 e264_22 R264)
                  have Ks264 : rR s264 7 = rR σ 7 := by (try simp only [rR_sF, rR_sA, rR_sT, rR_sL] at e264_0 e264_1 e264_2 e264_3 e264_4 e264_5 e264_6 e264_7 e264_8 e264_9 e264_10 e264_11 e264_12 e264_13 e264_14 e264_15 e264_16 e264_17 e264_18 e264_19 e264_20 e264_21 e264_22 R264); omega
                  have zr264 := fz_rng s264
                  have A264 : Im (fz s264 = 0) (RG σ s264 (rR σ 7) 0) := fun hf => RG.trk hp_2 (A260 (by omega)) R264 (by omega)
                  have O219u33 : Im (fz s264 = 0) _ := fun hf => OP.gk0 (O219u31 (by omega)) (GK.up (g := gs260) (N := rF (sT s257 (rR σ 7) 2 v219 v257) (rR σ 7) 7) (N' := rF s264 (rR σ 7) 7) (c := 0) (by first | omega | (simp only [rF_sT, rF_sA]; omega)))
                  have L260u34 : Im (fz s264 = 0) _ := fun hf => LI.gk0 hp_2 (L260u32 (by omega)) (O219u31 (by omega)) R264 (GK.up (g := gs260) (N := rF (sT s257 (rR σ 7) 2 v219 v257) (rR σ 7) 7) (N' := rF s264 (rR σ 7) 7) (c := 0) (by first | omega | (simp only [rF_sT, rF_sA]; omega)))
                  have Ku35 : Im (fz s264 = 0) (GK g gs260 (rF σ (rR σ 7) 7) (rF s264 (rR σ 7) 7) 0) := fun hf => GK.trans (Ku29 (by omega)) (GK.up (N := rF (sT s257 (rR σ 7) 2 v219 v257) (rR σ 7) 7) (N' := rF s264 (rR σ 7) 7) (c := 0) (by first | omega | (simp only [rF_sT, rF_sA]; omega))) (by omega)
                  have Gu36 : Im (fz s264 = 0) (GS s264 (rR σ 7) gs260) := fun hf => GS.mv hp_2 (Gu30 (by omega)) R264
                  have rNMp_264 := e264_0 q257_2; clear e264_0
                  have TPRp_264 := e264_1 TPRp_257; clear e264_1
                  have WNp_264 := e264_2 q257_3; clear e264_2
                  have PNp_264 := e264_3 q257_4; clear e264_3
                  have CCp_264 := e264_4 CCp_257; clear e264_4
                  obtain ⟨gu37, Xu38⟩ := EC_38 (P := fz s264 = 0) (rF s264 0 29) (fun hf => Gu36 (by omega)) (fun hf => O219u33 (by omega)) (fun hf => by omega)
                  have O219u39 : Im (fz s264 = 0) _ := fun hf => (Xu38 hf).2.1
                  have Ku40 : Im (fz s264 = 0) (GK g gu37 (rF σ (rR σ 7) 7) (rF s264 (rR σ 7) 7) 0) := fun hf => GK.kc (Ku35 (by omega)) (Xu38 hf).2.2 (by omega)
                  have Gu41 : Im (fz s264 = 0) _ := fun hf => (Xu38 hf).1
                  exact (by (try simp only [post_X14_readPrimary, Ks264]); (all_goals (repeat' (first | with_reducible intro _ | with_reducible apply And.intro | with_reducible refine Exists.intro gu37 ?_ | with_reducible refine Im.and ?_ ?_))); all_goals (first | assumption | trivial | (unfold NBP; (try simp only [Ks264]); omega) | (unfold NBQ; (try simp only [Ks264]); omega) | omega | (exact fun hf_ => (A264 (by omega))) | (exact fun hf_ => Gu41 (by omega)) | (exact fun hf_ => Ku40 (by omega)) | (exact fun hf_ => (O219u39 (by omega)).cst) | (exact fun _ => ok1.i) | (exact fun hf_ => LI.z (fun h => absurd h (by decide))) | (exact fun hf_ => absurd hf_ (by omega)) | (exact fun hf_ => by omega) | (have zz_ := fz_z (by assumption); omega) | (split <;> omega) | done))
              · refine ⟨(by (try simp only [pre_X14_isWord_t]); (all_goals (repeat' (first | with_reducible intro _ | with_reducible apply And.intro | with_reducible refine Exists.intro g ?_ | with_reducible refine Im.and ?_ ?_))); all_goals (first | assumption | trivial | (unfold NBP; omega) | (unfold NBQ; omega) | omega | (exact fun hf_ => ((fun _ => RG.rf) (by omega))) | (exact fun hf_ => hp_8 (by omega)) | (exact fun hf_ => (fun _ => GK.rf) (by omega)) | (exact fun _ => ok1.i) | (exact fun hf_ => LI.z (fun h => absurd h (by decide))) | (exact fun hf_ => absurd hf_ (by omega)) | (exact fun hf_ => by omega) | (have zz_ := fz_z (by assumption); omega) | (split <;> omega) | done)), ?_⟩
                intro v162 hv162 q162
                unfold rng at hv162
                unfold post_X14_isWord_t at q162
                obtain ⟨q162_1, q162_2, q162_3⟩ := q162
                (try simp only [NBP, NBQ] at q162_1 q162_2 q162_3)
                refine ⟨fun c165 => ?_, fun c165 => ?_⟩
                · refine ⟨(by (try simp only [pre_X14_node_t]); (all_goals (repeat' (first | with_reducible intro _ | with_reducible apply And.intro | with_reducible refine Exists.intro g ?_ | with_reducible refine Im.and ?_ ?_))); all_goals (first | assumption | trivial | (unfold NBP; omega) | (unfold NBQ; omega) | omega | (exact fun hf_ => ((fun _ => RG.rf) (by omega))) | (exact fun hf_ => hp_8 (by omega)) | (exact fun hf_ => (fun _ => GK.rf) (by omega)) | (exact fun _ => ok1.i) | (exact fun hf_ => LI.z (fun h => absurd h (by decide))) | (exact fun hf_ => absurd hf_ (by omega)) | (exact fun hf_ => by omega) | (have zz_ := fz_z (by assumption); omega) | (split <;> omega) | done)), ?_⟩
                  intro v178 s178 hv178 Ws178 e178_0 e178_1 e178_2 e178_3 e178_4 e178_5 e178_6 e178_7 e178_8 e178_9 e178_10 e178_11 e178_12 e178_13 e178_14 e178_15 e178_16 e178_17 e178_18 e178_19 e178_20 e178_21 e178_22 e178_23 e178_24 q178
                  unfold rng at hv178
                  unfold post_X14_node_t at q178
                  obtain ⟨q178_1, q178_2, q178_3, q178_4, q178_5, q178_6, q178_7, q178_8, q178_9⟩ := q178
                  (try simp only [NBP, NBQ] at q178_1 q178_2 q178_3 q178_4 q178_5 q178_6 q178_7 q178_8 q178_9 e178_0 e178_1 e178_2 e178_3 e178_4 e178_5 e178_6 e178_7 e178_8 e178_9 e178_10 e178_11 e178_12 e178_13 e178_14 e178_15 e178_16 e178_17 e178_18 e178_19 e178_20 e178_21 e178_22 e178_23 e178_24)
                  have Ks178 : rR s178 7 = rR σ 7 := by (try simp only [rR_sF, rR_sA, rR_sT, rR_sL] at e178_0 e178_1 e178_2 e178_3 e178_4 e178_5 e178_6 e178_7 e178_8 e178_9 e178_10 e178_11 e178_12 e178_13 e178_14 e178_15 e178_16 e178_17 e178_18 e178_19 e178_20 e178_21 e178_22 e178_23 e178_24); omega
                  have zr178 := fz_rng s178
                  have A178 : Im (fz s178 = 0) (RG σ s178 (rR σ 7) 0) := fun hf => RG.trk hp_2 ((fun _ => RG.rf) (by omega)) q178_3 (by omega)
                  obtain ⟨g178, X178⟩ := EN_32 (P := fz s178 = 0) (rF σ 0 29) (rF σ 0 31) hp_2 (fun hf => hp_8 (by omega)) (fun hf => q178_3) q178_1 q178_2 q178_4 q178_5 q178_6 q178_9 (fun hf => by (try simp only [rF_sT, rF_sA]); (repeat' (with_reducible apply And.intro)) <;> first | trivial | omega)
                  have Ku42 : Im (fz s178 = 0) (GK g g178 (rF σ (rR σ 7) 7) (rF s178 (rR σ 7) 7) 0) := fun hf => GK.gs ((fun _ => GK.rf) (by omega)) (X178 hf).2.1
                  have Gu43 : Im (fz s178 = 0) _ := fun hf => (X178 hf).1
                  have O178 : Im (fz s178 = 0) _ := fun hf => (X178 hf).2.2.1
                  have rNMp_178 := e178_0 hp_5; clear e178_0
                  have TPRp_178 := e178_1 hC1; clear e178_1
                  have WNp_178 := e178_2 hp_6; clear e178_2
                  have PNp_178 := e178_3 hp_7; clear e178_3
                  have CCp_178 := e178_4 hp_3; clear e178_4
                  intro hr_; unfold rng at hr_
                  intro hr_; unfold rng at hr_
                  refine ⟨(by (try simp only [pre_X14_wordEnd_t, Ks178]); (all_goals (repeat' (first | with_reducible intro _ | with_reducible apply And.intro | with_reducible refine Exists.intro g178 ?_ | with_reducible refine Im.and ?_ ?_))); all_goals (first | assumption | trivial | (unfold NBP; (try simp only [Ks178]); omega) | (unfold NBQ; (try simp only [Ks178]); omega) | omega | (exact fun hf_ => (A178 (by omega))) | (exact fun hf_ => Gu43 (by omega)) | (exact fun hf_ => Ku42 (by omega)) | (exact fun hf_ => (O178 (by omega)).cst) | (exact fun _ => ok1.i) | (exact fun hf_ => LI.z (fun h => absurd h (by decide))) | (exact fun hf_ => absurd hf_ (by omega)) | (exact fun hf_ => by omega) | (have zz_ := fz_z (by assumption); omega) | (split <;> omega) | done)), ?_⟩
                  intro v195 hv195 q195
                  unfold rng at hv195
                  unfold post_X14_wordEnd_t at q195
                  obtain ⟨q195_1, q195_2, q195_3, q195_4⟩ := q195
                  (try simp only [Ks178, NBP, NBQ] at q195_1 q195_2 q195_3 q195_4)
                  have w_ : rF σ 0 29 < v195 := by
                    have et : rA s178 1026 (rF σ 0 29) = rA σ 1026 (rF σ 0 29) := (show ∀ i, rA s178 1026 i = rA σ 1026 i by assumption) _
                    have hl := (by first | exact q141_3 ⟨by omega, by decide⟩ | exact q151_3 ⟨by omega, by decide⟩)
                    exact q195_4 ⟨by omega, by rw [et]; exact hl.2⟩
                  obtain ⟨gu44, Xu45⟩ := EC_32 (P := fz s178 = 0) v195 (fun hf => Gu43 (by omega)) (fun hf => O178 (by omega)) (fun hf => by omega)
                  have O178u46 : Im (fz s178 = 0) _ := fun hf => (Xu45 hf).2.1
                  have Ku47 : Im (fz s178 = 0) (GK g gu44 (rF σ (rR σ 7) 7) (rF s178 (rR σ 7) 7) 0) := fun hf => GK.kc (Ku42 (by omega)) (Xu45 hf).2.2 (by omega)
                  have Gu48 : Im (fz s178 = 0) _ := fun hf => (Xu45 hf).1
                  exact (by (try simp only [post_X14_readPrimary, reduceIte, and_true, true_and, and_false, false_and, and_self, Nat.reduceEqDiff, fz_sF29, rF_sF, rA_sF, rR_sF, tr_sF, rNMp_sF, PNp_sF, GS_F29, OP_F29, NR_F29, LI_F29, RG_l29, RG_r29, TPRp_sF29, WNp_sF29, VMp_sF29, KYp_sF29, PPp_sF29, WFp_sF29, CCp_sF29, rk_n0 hp_2, Ks178]); (all_goals (repeat' (first | with_reducible intro _ | with_reducible apply And.intro | with_reducible refine Exists.intro gu44 ?_ | with_reducible refine Im.and ?_ ?_))); all_goals (first | assumption | trivial | (unfold NBP; (try simp only [reduceIte, and_true, true_and, and_false, false_and, and_self, Nat.reduceEqDiff, fz_sF29, rF_sF, rA_sF, rR_sF, tr_sF, rNMp_sF, PNp_sF, GS_F29, OP_F29, NR_F29, LI_F29, RG_l29, RG_r29, TPRp_sF29, WNp_sF29, VMp_sF29, KYp_sF29, PPp_sF29, WFp_sF29, CCp_sF29, rk_n0 hp_2, Ks178]); omega) | (unfold NBQ; (try simp only [reduceIte, and_true, true_and, and_false, false_and, and_self, Nat.reduceEqDiff, fz_sF29, rF_sF, rA_sF, rR_sF, tr_sF, rNMp_sF, PNp_sF, GS_F29, OP_F29, NR_F29, LI_F29, RG_l29, RG_r29, TPRp_sF29, WNp_sF29, VMp_sF29, KYp_sF29, PPp_sF29, WFp_sF29, CCp_sF29, rk_n0 hp_2, Ks178]); omega) | omega | (exact fun hf_ => (A178 (by omega))) | (exact fun hf_ => Gu48 (by omega)) | (exact fun hf_ => Ku47 (by omega)) | (exact fun hf_ => (O178u46 (by omega)).cst) | (exact fun _ => ok1.i) | (exact fun hf_ => LI.z (fun h => absurd h (by decide))) | (exact fun hf_ => absurd hf_ (by omega)) | (exact fun hf_ => by omega) | (have zz_ := fz_z (by assumption); omega) | (split <;> omega) | done))
                · refine ⟨(by (try simp only [pre_X14_node_t]); (all_goals (repeat' (first | with_reducible intro _ | with_reducible apply And.intro | with_reducible refine Exists.intro g ?_ | with_reducible refine Im.and ?_ ?_))); all_goals (first | assumption | trivial | (unfold NBP; omega) | (unfold NBQ; omega) | omega | (exact fun hf_ => ((fun _ => RG.rf) (by omega))) | (exact fun hf_ => hp_8 (by omega)) | (exact fun hf_ => (fun _ => GK.rf) (by omega)) | (exact fun _ => ok1.i) | (exact fun hf_ => LI.z (fun h => absurd h (by decide))) | (exact fun hf_ => absurd hf_ (by omega)) | (exact fun hf_ => by omega) | (have zz_ := fz_z (by assumption); omega) | (split <;> omega) | done)), ?_⟩
                  intro v178 s178 hv178 Ws178 e178_0 e178_1 e178_2 e178_3 e178_4 e178_5 e178_6 e178_7 e178_8 e178_9 e178_10 e178_11 e178_12 e178_13 e178_14 e178_15 e178_16 e178_17 e178_18 e178_19 e178_20 e178_21 e178_22 e178_23 e178_24 q178
                  unfold rng at hv178
                  unfold post_X14_node_t at q178
                  obtain ⟨q178_1, q178_2, q178_3, q178_4, q178_5, q178_6, q178_7, q178_8, q178_9⟩ := q178
                  (try simp only [NBP, NBQ] at q178_1 q178_2 q178_3 q178_4 q178_5 q178_6 q178_7 q178_8 q178_9 e178_0 e178_1 e178_2 e178_3 e178_4 e178_5 e178_6 e178_7 e178_8 e178_9 e178_10 e178_11 e178_12 e178_13 e178_14 e178_15 e178_16 e178_17 e178_18 e178_19 e178_20 e178_21 e178_22 e178_23 e178_24)
                  have Ks178 : rR s178 7 = rR σ 7 := by (try simp only [rR_sF, rR_sA, rR_sT, rR_sL] at e178_0 e178_1 e178_2 e178_3 e178_4 e178_5 e178_6 e178_7 e178_8 e178_9 e178_10 e178_11 e178_12 e178_13 e178_14 e178_15 e178_16 e178_17 e178_18 e178_19 e178_20 e178_21 e178_22 e178_23 e178_24); omega
                  have zr178 := fz_rng s178
                  have A178 : Im (fz s178 = 0) (RG σ s178 (rR σ 7) 0) := fun hf => RG.trk hp_2 ((fun _ => RG.rf) (by omega)) q178_3 (by omega)
                  obtain ⟨g178, X178⟩ := EN_31 (P := fz s178 = 0) (rF σ 0 29) (rF σ 0 31) hp_2 (fun hf => hp_8 (by omega)) (fun hf => q178_3) q178_1 q178_2 q178_4 q178_5 q178_6 q178_9 (fun hf => by (try simp only [rF_sT, rF_sA]); (repeat' (with_reducible apply And.intro)) <;> first | trivial | omega)
                  have Ku49 : Im (fz s178 = 0) (GK g g178 (rF σ (rR σ 7) 7) (rF s178 (rR σ 7) 7) 0) := fun hf => GK.gs ((fun _ => GK.rf) (by omega)) (X178 hf).2.1
                  have Gu50 : Im (fz s178 = 0) _ := fun hf => (X178 hf).1
                  have O178 : Im (fz s178 = 0) _ := fun hf => (X178 hf).2.2.1
                  have rNMp_178 := e178_0 hp_5; clear e178_0
                  have TPRp_178 := e178_1 hC1; clear e178_1
                  have WNp_178 := e178_2 hp_6; clear e178_2
                  have PNp_178 := e178_3 hp_7; clear e178_3
                  have CCp_178 := e178_4 hp_3; clear e178_4
                  intro hr_; unfold rng at hr_
                  intro hr_; unfold rng at hr_
                  refine ⟨(by (try simp only [pre_X14_wordEnd_t, Ks178]); (all_goals (repeat' (first | with_reducible intro _ | with_reducible apply And.intro | with_reducible refine Exists.intro g178 ?_ | with_reducible refine Im.and ?_ ?_))); all_goals (first | assumption | trivial | (unfold NBP; (try simp only [Ks178]); omega) | (unfold NBQ; (try simp only [Ks178]); omega) | omega | (exact fun hf_ => (A178 (by omega))) | (exact fun hf_ => Gu50 (by omega)) | (exact fun hf_ => Ku49 (by omega)) | (exact fun hf_ => (O178 (by omega)).cst) | (exact fun _ => ok1.i) | (exact fun hf_ => LI.z (fun h => absurd h (by decide))) | (exact fun hf_ => absurd hf_ (by omega)) | (exact fun hf_ => by omega) | (have zz_ := fz_z (by assumption); omega) | (split <;> omega) | done)), ?_⟩
                  intro v195 hv195 q195
                  unfold rng at hv195
                  unfold post_X14_wordEnd_t at q195
                  obtain ⟨q195_1, q195_2, q195_3, q195_4⟩ := q195
                  (try simp only [Ks178, NBP, NBQ] at q195_1 q195_2 q195_3 q195_4)
                  have w_ : rF σ 0 29 < v195 := by
                    have et : rA s178 1026 (rF σ 0 29) = rA σ 1026 (rF σ 0 29) := (show ∀ i, rA s178 1026 i = rA σ 1026 i by assumption) _
                    have hl := (by first | exact q141_3 ⟨by omega, by decide⟩ | exact q151_3 ⟨by omega, by decide⟩)
                    exact q195_4 ⟨by omega, by rw [et]; exact hl.2⟩
                  obtain ⟨gu51, Xu52⟩ := EC_31 (P := fz s178 = 0) v195 (fun hf => Gu50 (by omega)) (fun hf => O178 (by omega)) (fun hf => by omega)
                  have O178u53 : Im (fz s178 = 0) _ := fun hf => (Xu52 hf).2.1
                  have Ku54 : Im (fz s178 = 0) (GK g gu51 (rF σ (rR σ 7) 7) (rF s178 (rR σ 7) 7) 0) := fun hf => GK.kc (Ku49 (by omega)) (Xu52 hf).2.2 (by omega)
                  have Gu55 : Im (fz s178 = 0) _ := fun hf => (Xu52 hf).1
                  exact (by (try simp only [post_X14_readPrimary, reduceIte, and_true, true_and, and_false, false_and, and_self, Nat.reduceEqDiff, fz_sF29, rF_sF, rA_sF, rR_sF, tr_sF, rNMp_sF, PNp_sF, GS_F29, OP_F29, NR_F29, LI_F29, RG_l29, RG_r29, TPRp_sF29, WNp_sF29, VMp_sF29, KYp_sF29, PPp_sF29, WFp_sF29, CCp_sF29, rk_n0 hp_2, Ks178]); (all_goals (repeat' (first | with_reducible intro _ | with_reducible apply And.intro | with_reducible refine Exists.intro gu51 ?_ | with_reducible refine Im.and ?_ ?_))); all_goals (first | assumption | trivial | (unfold NBP; (try simp only [reduceIte, and_true, true_and, and_false, false_and, and_self, Nat.reduceEqDiff, fz_sF29, rF_sF, rA_sF, rR_sF, tr_sF, rNMp_sF, PNp_sF, GS_F29, OP_F29, NR_F29, LI_F29, RG_l29, RG_r29, TPRp_sF29, WNp_sF29, VMp_sF29, KYp_sF29, PPp_sF29, WFp_sF29, CCp_sF29, rk_n0 hp_2, Ks178]); omega) | (unfold NBQ; (try simp only [reduceIte, and_true, true_and, and_false, false_and, and_self, Nat.reduceEqDiff, fz_sF29, rF_sF, rA_sF, rR_sF, tr_sF, rNMp_sF, PNp_sF, GS_F29, OP_F29, NR_F29, LI_F29, RG_l29, RG_r29, TPRp_sF29, WNp_sF29, VMp_sF29, KYp_sF29, PPp_sF29, WFp_sF29, CCp_sF29, rk_n0 hp_2, Ks178]); omega) | omega | (exact fun hf_ => (A178 (by omega))) | (exact fun hf_ => Gu55 (by omega)) | (exact fun hf_ => Ku54 (by omega)) | (exact fun hf_ => (O178u53 (by omega)).cst) | (exact fun _ => ok1.i) | (exact fun hf_ => LI.z (fun h => absurd h (by decide))) | (exact fun hf_ => absurd hf_ (by omega)) | (exact fun hf_ => by omega) | (have zz_ := fz_z (by assumption); omega) | (split <;> omega) | done))
          · intro hr_; unfold rng at hr_
            refine ⟨(by (try simp only [rng]); (all_goals (repeat' (first | with_reducible intro _ | with_reducible apply And.intro | with_reducible refine Exists.intro g ?_ | with_reducible refine Im.and ?_ ?_))); all_goals (first | assumption | trivial | (unfold NBP; omega) | (unfold NBQ; omega) | omega | (exact fun hf_ => ((fun _ => RG.rf) (by omega))) | (exact fun hf_ => hp_8 (by omega)) | (exact fun hf_ => (fun _ => GK.rf) (by omega)) | (exact fun _ => ok1.i) | (exact fun hf_ => LI.z (fun h => absurd h (by decide))) | (exact fun hf_ => absurd hf_ (by omega)) | (exact fun hf_ => by omega) | (have zz_ := fz_z (by assumption); omega) | (split <;> omega) | done)), ?_⟩
            refine ⟨g, ?_⟩
            refine ⟨(by (try simp only [pre_X14_readArg, reduceIte, and_true, true_and, and_false, false_and, and_self, Nat.reduceEqDiff, fz_sF29, rF_sF, rA_sF, rR_sF, tr_sF, rNMp_sF, PNp_sF, GS_F29, OP_F29, NR_F29, LI_F29, RG_l29, RG_r29, TPRp_sF29, WNp_sF29, VMp_sF29, KYp_sF29, PPp_sF29, WFp_sF29, CCp_sF29, rk_n0 hp_2]); (all_goals (repeat' (first | with_reducible intro _ | with_reducible apply And.intro | with_reducible refine Exists.intro g ?_ | with_reducible refine Im.and ?_ ?_))); all_goals (first | assumption | trivial | (unfold NBP; (try simp only [reduceIte, and_true, true_and, and_false, false_and, and_self, Nat.reduceEqDiff, fz_sF29, rF_sF, rA_sF, rR_sF, tr_sF, rNMp_sF, PNp_sF, GS_F29, OP_F29, NR_F29, LI_F29, RG_l29, RG_r29, TPRp_sF29, WNp_sF29, VMp_sF29, KYp_sF29, PPp_sF29, WFp_sF29, CCp_sF29, rk_n0 hp_2]); omega) | (unfold NBQ; (try simp only [reduceIte, and_true, true_and, and_false, false_and, and_self, Nat.reduceEqDiff, fz_sF29, rF_sF, rA_sF, rR_sF, tr_sF, rNMp_sF, PNp_sF, GS_F29, OP_F29, NR_F29, LI_F29, RG_l29, RG_r29, TPRp_sF29, WNp_sF29, VMp_sF29, KYp_sF29, PPp_sF29, WFp_sF29, CCp_sF29, rk_n0 hp_2]); omega) | omega | (exact fun hf_ => ((fun _ => RG.rf) (by omega))) | (exact fun hf_ => hp_8 (by omega)) | (exact fun hf_ => (fun _ => GK.rf) (by omega)) | (exact fun _ => ok1.i) | (exact fun hf_ => LI.z (fun h => absurd h (by decide))) | (exact fun hf_ => absurd hf_ (by omega)) | (exact fun hf_ => by omega) | (have zz_ := fz_z (by assumption); omega) | (split <;> omega) | done)), ?_⟩
            refine ⟨(by (try simp only [rk_X14_readArg, reduceIte, and_true, true_and, and_false, false_and, and_self, Nat.reduceEqDiff, fz_sF29, rF_sF, rA_sF, rR_sF, tr_sF, rNMp_sF, PNp_sF, GS_F29, OP_F29, NR_F29, LI_F29, RG_l29, RG_r29, TPRp_sF29, WNp_sF29, VMp_sF29, KYp_sF29, PPp_sF29, WFp_sF29, CCp_sF29, rk_n0 hp_2]); (all_goals (repeat' (first | with_reducible intro _ | with_reducible apply And.intro | with_reducible refine Exists.intro g ?_ | with_reducible refine Im.and ?_ ?_))); all_goals (first | assumption | trivial | (unfold NBP; (try simp only [reduceIte, and_true, true_and, and_false, false_and, and_self, Nat.reduceEqDiff, fz_sF29, rF_sF, rA_sF, rR_sF, tr_sF, rNMp_sF, PNp_sF, GS_F29, OP_F29, NR_F29, LI_F29, RG_l29, RG_r29, TPRp_sF29, WNp_sF29, VMp_sF29, KYp_sF29, PPp_sF29, WFp_sF29, CCp_sF29, rk_n0 hp_2]); omega) | (unfold NBQ; (try simp only [reduceIte, and_true, true_and, and_false, false_and, and_self, Nat.reduceEqDiff, fz_sF29, rF_sF, rA_sF, rR_sF, tr_sF, rNMp_sF, PNp_sF, GS_F29, OP_F29, NR_F29, LI_F29, RG_l29, RG_r29, TPRp_sF29, WNp_sF29, VMp_sF29, KYp_sF29, PPp_sF29, WFp_sF29, CCp_sF29, rk_n0 hp_2]); omega) | omega | (exact fun hf_ => ((fun _ => RG.rf) (by omega))) | (exact fun hf_ => hp_8 (by omega)) | (exact fun hf_ => (fun _ => GK.rf) (by omega)) | (exact fun _ => ok1.i) | (exact fun hf_ => LI.z (fun h => absurd h (by decide))) | (exact fun hf_ => absurd hf_ (by omega)) | (exact fun hf_ => by omega) | (have zz_ := fz_z (by assumption); omega) | (split <;> omega) | done)), ?_⟩
            intro v67 s67 hv67 Ws67 e67_0 e67_1 e67_2 e67_3 e67_4 e67_5 e67_6 e67_7 e67_8 e67_9 q67
            unfold rng at hv67
            unfold post_X14_readArg at q67
            obtain ⟨q67_1, q67_2, q67_3, q67_4, q67_5, q67_6, q67_7, q67_8, q67_9⟩ := q67
            (try simp only [reduceIte, and_true, true_and, and_false, false_and, and_self, Nat.reduceEqDiff, fz_sF29, rF_sF, rA_sF, rR_sF, tr_sF, rNMp_sF, PNp_sF, GS_F29, OP_F29, NR_F29, LI_F29, RG_l29, RG_r29, TPRp_sF29, WNp_sF29, VMp_sF29, KYp_sF29, PPp_sF29, WFp_sF29, CCp_sF29, rk_n0 hp_2, NBP, NBQ] at q67_1 q67_2 q67_3 q67_4 q67_5 q67_6 q67_7 q67_8 q67_9 e67_0 e67_1 e67_2 e67_3 e67_4 e67_5 e67_6 e67_7 e67_8 e67_9)
            have Ks67 : rR s67 7 = rR σ 7 := by (try simp only [rR_sF, rR_sA, rR_sT, rR_sL] at e67_0 e67_1 e67_2 e67_3 e67_4 e67_5 e67_6 e67_7 e67_8 e67_9); omega
            have zr67 := fz_rng s67
            have A67 : Im (fz s67 = 0) (RG σ s67 (rR σ 7) 0) := fun hf => RG.trk hp_2 ((fun _ => RG.rf) (by omega)) (q67_8 (by omega)) (by omega)
            obtain ⟨g67, X67⟩ := q67_9
            have Ku56 : Im (fz s67 = 0) (GK g g67 (rF σ (rR σ 7) 7) (rF s67 (rR σ 7) 7) 0) := fun hf => GK.trans ((fun _ => GK.rf) (by omega)) ((X67 hf).2.1) (by omega)
            have Gu57 : Im (fz s67 = 0) (GS s67 (rR σ 7) g67) := fun hf => (X67 hf).1
            have r67 : Im (fz s67 = 0) _ := fun hf => (X67 hf).2.2.1
            have TPRp_67 := e67_0 hC1; clear e67_0
            have CCp_67 := e67_1 hp_3; clear e67_1
            refine ⟨(by (try simp only [pre_X14_need, Ks67]); (all_goals (repeat' (first | with_reducible intro _ | with_reducible apply And.intro | with_reducible refine Exists.intro g67 ?_ | with_reducible refine Im.and ?_ ?_))); all_goals (first | assumption | trivial | (unfold NBP; (try simp only [Ks67]); omega) | (unfold NBQ; (try simp only [Ks67]); omega) | omega | (exact fun hf_ => (A67 (by omega))) | (exact fun hf_ => Gu57 (by omega)) | (exact fun hf_ => Ku56 (by omega)) | (exact fun hf_ => (r67 (by omega)).cst) | (exact fun _ => ok1.i) | (exact fun hf_ => LI.z (fun h => absurd h (by decide))) | (exact fun hf_ => absurd hf_ (by omega)) | (exact fun hf_ => by omega) | (have zz_ := fz_z (by assumption); omega) | (split <;> omega) | done)), ?_⟩
            intro s74 Ws74 e74_0 e74_1 e74_2 e74_3 e74_4 e74_5 e74_6 e74_7 e74_8 e74_9 e74_10 e74_11 e74_12 e74_13 e74_14 e74_15 e74_16 e74_17 e74_18 e74_19 e74_20 e74_21 e74_22 R74 q74
            have q74 := dig_need q74 (by (try simp only [Ks67]); omega)
            obtain ⟨q74_1, q74_2, q74_3, q74_4⟩ := q74
            (try simp only [Ks67, NBP, NBQ] at q74_1 q74_2 q74_3 q74_4 e74_0 e74_1 e74_2 e74_3 e74_4 e74_5 e74_6 e74_7 e74_8 e74_9 e74_10 e74_11 e74_12 e74_13 e74_14 e74_15 e74_16 e74_17 e74_18 e74_19 e74_20 e74_21 e74_22 R74)
            have Ks74 : rR s74 7 = rR σ 7 := by (try simp only [rR_sF, rR_sA, rR_sT, rR_sL] at e74_0 e74_1 e74_2 e74_3 e74_4 e74_5 e74_6 e74_7 e74_8 e74_9 e74_10 e74_11 e74_12 e74_13 e74_14 e74_15 e74_16 e74_17 e74_18 e74_19 e74_20 e74_21 e74_22 R74); omega
            have zr74 := fz_rng s74
            have A74 : Im (fz s74 = 0) (RG σ s74 (rR σ 7) 0) := fun hf => RG.trk hp_2 (A67 (by omega)) R74 (by omega)
            have r67u58 : Im (fz s74 = 0) _ := fun hf => NR.gk (r67 (by omega)) (GK.up (g := g67) (N := rF s67 (rR σ 7) 7) (N' := rF s74 (rR σ 7) 7) (c := 0) (by first | omega | (simp only [rF_sT, rF_sA]; omega)))
            have Ku59 : Im (fz s74 = 0) (GK g g67 (rF σ (rR σ 7) 7) (rF s74 (rR σ 7) 7) 0) := fun hf => GK.trans (Ku56 (by omega)) (GK.up (N := rF s67 (rR σ 7) 7) (N' := rF s74 (rR σ 7) 7) (c := 0) (by first | omega | (simp only [rF_sT, rF_sA]; omega))) (by omega)
            have Gu60 : Im (fz s74 = 0) (GS s74 (rR σ 7) g67) := fun hf => GS.mv hp_2 (Gu57 (by omega)) R74
            have rNMp_74 := e74_0 q67_2; clear e74_0
            have TPRp_74 := e74_1 TPRp_67; clear e74_1
            have WNp_74 := e74_2 q67_3; clear e74_2
            have PNp_74 := e74_3 q67_4; clear e74_3
            have CCp_74 := e74_4 CCp_67; clear e74_4
            refine ⟨(by (try simp only [pre_X14_blanks, Ks74]); (all_goals (repeat' (first | with_reducible intro _ | with_reducible apply And.intro | with_reducible refine Exists.intro g67 ?_ | with_reducible refine Im.and ?_ ?_))); all_goals (first | assumption | trivial | (unfold NBP; (try simp only [Ks74]); omega) | (unfold NBQ; (try simp only [Ks74]); omega) | omega | (exact fun hf_ => (A74 (by omega))) | (exact fun hf_ => Gu60 (by omega)) | (exact fun hf_ => Ku59 (by omega)) | (exact fun hf_ => (r67u58 (by omega)).cst) | (exact fun _ => ok1.i) | (exact fun hf_ => LI.z (fun h => absurd h (by decide))) | (exact fun hf_ => absurd hf_ (by omega)) | (exact fun hf_ => by omega) | (have zz_ := fz_z (by assumption); omega) | (split <;> omega) | done)), ?_⟩
            intro s78 Ws78 e78_0 e78_1 e78_2 e78_3 e78_4 e78_5 e78_6 e78_7 e78_8 e78_9 e78_10 e78_11 e78_12 e78_13 e78_14 e78_15 e78_16 e78_17 e78_18 e78_19 e78_20 e78_21 e78_22 e78_23 e78_24 R78 q78
            have q78 := dig_blanks q78 (by (try simp only [Ks74]); omega)
            obtain ⟨q78_1, q78_2⟩ := q78
            (try simp only [Ks74, NBP, NBQ] at q78_1 q78_2 e78_0 e78_1 e78_2 e78_3 e78_4 e78_5 e78_6 e78_7 e78_8 e78_9 e78_10 e78_11 e78_12 e78_13 e78_14 e78_15 e78_16 e78_17 e78_18 e78_19 e78_20 e78_21 e78_22 e78_23 e78_24 R78)
            have Ks78 : rR s78 7 = rR σ 7 := by (try simp only [rR_sF, rR_sA, rR_sT, rR_sL] at e78_0 e78_1 e78_2 e78_3 e78_4 e78_5 e78_6 e78_7 e78_8 e78_9 e78_10 e78_11 e78_12 e78_13 e78_14 e78_15 e78_16 e78_17 e78_18 e78_19 e78_20 e78_21 e78_22 e78_23 e78_24 R78); omega
            have zr78 := fz_rng s78
            have A78 : Im (fz s78 = 0) (RG σ s78 (rR σ 7) 0) := fun hf => RG.trk hp_2 (A74 (by omega)) R78 (by omega)
            have r67u61 : Im (fz s78 = 0) _ := fun hf => NR.gk (r67u58 (by omega)) (GK.up (g := g67) (N := rF s74 (rR σ 7) 7) (N' := rF s78 (rR σ 7) 7) (c := 0) (by first | omega | (simp only [rF_sT, rF_sA]; omega)))
            have Ku62 : Im (fz s78 = 0) (GK g g67 (rF σ (rR σ 7) 7) (rF s78 (rR σ 7) 7) 0) := fun hf => GK.trans (Ku59 (by omega)) (GK.up (N := rF s74 (rR σ 7) 7) (N' := rF s78 (rR σ 7) 7) (c := 0) (by first | omega | (simp only [rF_sT, rF_sA]; omega))) (by omega)
            have Gu63 : Im (fz s78 = 0) (GS s78 (rR σ 7) g67) := fun hf => GS.mv hp_2 (Gu60 (by omega)) R78
            have rNMp_78 := e78_0 rNMp_74; clear e78_0
            have TPRp_78 := e78_1 TPRp_74; clear e78_1
            have WNp_78 := e78_2 WNp_74; clear e78_2
            have PNp_78 := e78_3 PNp_74; clear e78_3
            have CCp_78 := e78_4 CCp_74; clear e78_4
            refine ⟨(by (try simp only [pre_X14_here, Ks78]); (all_goals (repeat' (first | with_reducible intro _ | with_reducible apply And.intro | with_reducible refine Exists.intro g67 ?_ | with_reducible refine Im.and ?_ ?_))); all_goals (first | assumption | trivial | (unfold NBP; (try simp only [Ks78]); omega) | (unfold NBQ; (try simp only [Ks78]); omega) | omega | (exact fun hf_ => (A78 (by omega))) | (exact fun hf_ => Gu63 (by omega)) | (exact fun hf_ => Ku62 (by omega)) | (exact fun hf_ => (r67u61 (by omega)).cst) | (exact fun _ => ok1.i) | (exact fun hf_ => LI.z (fun h => absurd h (by decide))) | (exact fun hf_ => absurd hf_ (by omega)) | (exact fun hf_ => by omega) | (have zz_ := fz_z (by assumption); omega) | (split <;> omega) | done)), ?_⟩
            intro v82 hv82 q82
            unfold rng at hv82
            unfold post_X14_here at q82
            obtain ⟨q82_1, q82_2⟩ := q82
            (try simp only [Ks78, NBP, NBQ] at q82_1 q82_2)
            refine ⟨fun c87 => ?_, fun c87 => ?_⟩
            · refine ⟨(by (try simp only [pre_X14_node_t, Ks78]); (all_goals (repeat' (first | with_reducible intro _ | with_reducible apply And.intro | with_reducible refine Exists.intro g67 ?_ | with_reducible refine Im.and ?_ ?_))); all_goals (first | assumption | trivial | (unfold NBP; (try simp only [Ks78]); omega) | (unfold NBQ; (try simp only [Ks78]); omega) | omega | (exact fun hf_ => (A78 (by omega))) | (exact fun hf_ => Gu63 (by omega)) | (exact fun hf_ => Ku62 (by omega)) | (exact fun hf_ => (r67u61 (by omega)).cst) | (exact fun _ => ok1.i) | (exact fun hf_ => LI.z (fun h => absurd h (by decide))) | (exact fun hf_ => absurd hf_ (by omega)) | (exact fun hf_ => by omega) | (have zz_ := fz_z (by assumption); omega) | (split <;> omega) | done)), ?_⟩
              intro v103 s103 hv103 Ws103 e103_0 e103_1 e103_2 e103_3 e103_4 e103_5 e103_6 e103_7 e103_8 e103_9 e103_10 e103_11 e103_12 e103_13 e103_14 e103_15 e103_16 e103_17 e103_18 e103_19 e103_20 e103_21 e103_22 e103_23 e103_24 q103
              unfold rng at hv103
              unfold post_X14_node_t at q103
              obtain ⟨q103_1, q103_2, q103_3, q103_4, q103_5, q103_6, q103_7, q103_8, q103_9⟩ := q103
              (try simp only [Ks78, NBP, NBQ] at q103_1 q103_2 q103_3 q103_4 q103_5 q103_6 q103_7 q103_8 q103_9 e103_0 e103_1 e103_2 e103_3 e103_4 e103_5 e103_6 e103_7 e103_8 e103_9 e103_10 e103_11 e103_12 e103_13 e103_14 e103_15 e103_16 e103_17 e103_18 e103_19 e103_20 e103_21 e103_22 e103_23 e103_24)
              have Ks103 : rR s103 7 = rR σ 7 := by (try simp only [rR_sF, rR_sA, rR_sT, rR_sL] at e103_0 e103_1 e103_2 e103_3 e103_4 e103_5 e103_6 e103_7 e103_8 e103_9 e103_10 e103_11 e103_12 e103_13 e103_14 e103_15 e103_16 e103_17 e103_18 e103_19 e103_20 e103_21 e103_22 e103_23 e103_24); omega
              have zr103 := fz_rng s103
              have A103 : Im (fz s103 = 0) (RG σ s103 (rR σ 7) 0) := fun hf => RG.trk hp_2 (A78 (by omega)) q103_3 (by omega)
              obtain ⟨g103, X103⟩ := EV_39 (P := fz s103 = 0) ((rF σ 0 29) + 1) (rF s67 0 31) hp_2 (fun hf => Gu63 (by omega)) (fun hf => r67u61 (by omega)) (fun _ h => h) (fun hf => q103_3) q103_1 q103_2 q103_4 q103_5 q103_6 q103_9 (fun hf => by (try simp only [rF_sT, rF_sA]); (repeat' (with_reducible apply And.intro)) <;> first | trivial | omega)
              have Ku64 : Im (fz s103 = 0) (GK g g103 (rF σ (rR σ 7) 7) (rF s103 (rR σ 7) 7) 0) := fun hf => GK.kv (Ku62 (by omega)) (X103 hf).2.1 (by omega)
              have Gu65 : Im (fz s103 = 0) _ := fun hf => (X103 hf).1
              have O103 : Im (fz s103 = 0) _ := fun hf => (X103 hf).2.2.1
              have L103_1 : Im (fz s103 = 0) _ := fun hf => (X103 hf).2.2.2.1
              have rNMp_103 := e103_0 rNMp_78; clear e103_0
              have TPRp_103 := e103_1 TPRp_78; clear e103_1
              have WNp_103 := e103_2 WNp_78; clear e103_2
              have PNp_103 := e103_3 PNp_78; clear e103_3
              have CCp_103 := e103_4 CCp_78; clear e103_4
              obtain ⟨gu66, Xu67⟩ := EC_39 (P := fz s103 = 0) (rF s78 0 29) (fun hf => Gu65 (by omega)) (fun hf => O103 (by omega)) (fun hf => by omega)
              have O103u68 : Im (fz s103 = 0) _ := fun hf => (Xu67 hf).2.1
              have Ku69 : Im (fz s103 = 0) (GK g gu66 (rF σ (rR σ 7) 7) (rF s103 (rR σ 7) 7) 0) := fun hf => GK.kc (Ku64 (by omega)) (Xu67 hf).2.2 (by omega)
              have Gu70 : Im (fz s103 = 0) _ := fun hf => (Xu67 hf).1
              exact (by (try simp only [post_X14_readPrimary, Ks103]); (all_goals (repeat' (first | with_reducible intro _ | with_reducible apply And.intro | with_reducible refine Exists.intro gu66 ?_ | with_reducible refine Im.and ?_ ?_))); all_goals (first | assumption | trivial | (unfold NBP; (try simp only [Ks103]); omega) | (unfold NBQ; (try simp only [Ks103]); omega) | omega | (exact fun hf_ => (A103 (by omega))) | (exact fun hf_ => Gu70 (by omega)) | (exact fun hf_ => Ku69 (by omega)) | (exact fun hf_ => (O103u68 (by omega)).cst) | (exact fun _ => ok1.i) | (exact fun hf_ => LI.z (fun h => absurd h (by decide))) | (exact fun hf_ => absurd hf_ (by omega)) | (exact fun hf_ => by omega) | (have zz_ := fz_z (by assumption); omega) | (split <;> omega) | done))
            · intro hr_; unfold rng at hr_
              refine ⟨fun c94 => ?_, fun c94 => ?_⟩
              · have z94 := fz_z c94
                intro hr_; unfold rng at hr_
                refine ⟨(by (try simp only [rng, Ks78]); (all_goals (repeat' (first | with_reducible intro _ | with_reducible apply And.intro | with_reducible refine Exists.intro g67 ?_ | with_reducible refine Im.and ?_ ?_))); all_goals (first | assumption | trivial | (unfold NBP; (try simp only [Ks78]); omega) | (unfold NBQ; (try simp only [Ks78]); omega) | omega | (exact fun hf_ => (A78 (by omega))) | (exact fun hf_ => Gu63 (by omega)) | (exact fun hf_ => Ku62 (by omega)) | (exact fun hf_ => (r67u61 (by omega)).cst) | (exact fun _ => ok1.i) | (exact fun hf_ => LI.z (fun h => absurd h (by decide))) | (exact fun hf_ => absurd hf_ (by omega)) | (exact fun hf_ => by omega) | (have zz_ := fz_z (by assumption); omega) | (split <;> omega) | done)), ?_⟩
                refine ⟨(by (try simp only [pre_X14_node_t, reduceIte, and_true, true_and, and_false, false_and, and_self, Nat.reduceEqDiff, fz_sF29, rF_sF, rA_sF, rR_sF, tr_sF, rNMp_sF, PNp_sF, GS_F29, OP_F29, NR_F29, LI_F29, RG_l29, RG_r29, TPRp_sF29, WNp_sF29, VMp_sF29, KYp_sF29, PPp_sF29, WFp_sF29, CCp_sF29, rk_n0 hp_2, Ks78]); (all_goals (repeat' (first | with_reducible intro _ | with_reducible apply And.intro | with_reducible refine Exists.intro g67 ?_ | with_reducible refine Im.and ?_ ?_))); all_goals (first | assumption | trivial | (unfold NBP; (try simp only [reduceIte, and_true, true_and, and_false, false_and, and_self, Nat.reduceEqDiff, fz_sF29, rF_sF, rA_sF, rR_sF, tr_sF, rNMp_sF, PNp_sF, GS_F29, OP_F29, NR_F29, LI_F29, RG_l29, RG_r29, TPRp_sF29, WNp_sF29, VMp_sF29, KYp_sF29, PPp_sF29, WFp_sF29, CCp_sF29, rk_n0 hp_2, Ks78]); omega) | (unfold NBQ; (try simp only [reduceIte, and_true, true_and, and_false, false_and, and_self, Nat.reduceEqDiff, fz_sF29, rF_sF, rA_sF, rR_sF, tr_sF, rNMp_sF, PNp_sF, GS_F29, OP_F29, NR_F29, LI_F29, RG_l29, RG_r29, TPRp_sF29, WNp_sF29, VMp_sF29, KYp_sF29, PPp_sF29, WFp_sF29, CCp_sF29, rk_n0 hp_2, Ks78]); omega) | omega | (exact fun hf_ => (A78 (by omega))) | (exact fun hf_ => Gu63 (by omega)) | (exact fun hf_ => Ku62 (by omega)) | (exact fun hf_ => (r67u61 (by omega)).cst) | (exact fun _ => ok1.i) | (exact fun hf_ => LI.z (fun h => absurd h (by decide))) | (exact fun hf_ => absurd hf_ (by omega)) | (exact fun hf_ => by omega) | (have zz_ := fz_z (by assumption); omega) | (split <;> omega) | done)), ?_⟩
                intro v123 s123 hv123 Ws123 e123_0 e123_1 e123_2 e123_3 e123_4 e123_5 e123_6 e123_7 e123_8 e123_9 e123_10 e123_11 e123_12 e123_13 e123_14 e123_15 e123_16 e123_17 e123_18 e123_19 e123_20 e123_21 e123_22 e123_23 e123_24 q123
                unfold rng at hv123
                unfold post_X14_node_t at q123
                obtain ⟨q123_1, q123_2, q123_3, q123_4, q123_5, q123_6, q123_7, q123_8, q123_9⟩ := q123
                (try simp only [reduceIte, and_true, true_and, and_false, false_and, and_self, Nat.reduceEqDiff, fz_sF29, rF_sF, rA_sF, rR_sF, tr_sF, rNMp_sF, PNp_sF, GS_F29, OP_F29, NR_F29, LI_F29, RG_l29, RG_r29, TPRp_sF29, WNp_sF29, VMp_sF29, KYp_sF29, PPp_sF29, WFp_sF29, CCp_sF29, rk_n0 hp_2, Ks78, NBP, NBQ] at q123_1 q123_2 q123_3 q123_4 q123_5 q123_6 q123_7 q123_8 q123_9 e123_0 e123_1 e123_2 e123_3 e123_4 e123_5 e123_6 e123_7 e123_8 e123_9 e123_10 e123_11 e123_12 e123_13 e123_14 e123_15 e123_16 e123_17 e123_18 e123_19 e123_20 e123_21 e123_22 e123_23 e123_24)
                have Ks123 : rR s123 7 = rR σ 7 := by (try simp only [rR_sF, rR_sA, rR_sT, rR_sL] at e123_0 e123_1 e123_2 e123_3 e123_4 e123_5 e123_6 e123_7 e123_8 e123_9 e123_10 e123_11 e123_12 e123_13 e123_14 e123_15 e123_16 e123_17 e123_18 e123_19 e123_20 e123_21 e123_22 e123_23 e123_24); omega
                have zr123 := fz_rng s123
                have A123 : Im (fz s123 = 0) (RG σ s123 (rR σ 7) 0) := fun hf => RG.trk hp_2 (A78 (by omega)) q123_3 (by omega)
                obtain ⟨g123, X123⟩ := EV_37 (P := fz s123 = 0) ((rF σ 0 29) + 1) (rF s67 0 31) hp_2 (fun hf => Gu63 (by omega)) (fun hf => r67u61 (by omega)) (fun _ h => h) (fun hf => q123_3) q123_1 q123_2 q123_4 q123_5 q123_6 q123_9 (fun hf => by (try simp only [rF_sT, rF_sA]); (repeat' (with_reducible apply And.intro)) <;> first | trivial | omega)
                have Ku71 : Im (fz s123 = 0) (GK g g123 (rF σ (rR σ 7) 7) (rF s123 (rR σ 7) 7) 0) := fun hf => GK.kv (Ku62 (by omega)) (X123 hf).2.1 (by omega)
                have Gu72 : Im (fz s123 = 0) _ := fun hf => (X123 hf).1
                have O123 : Im (fz s123 = 0) _ := fun hf => (X123 hf).2.2.1
                have L123_1 : Im (fz s123 = 0) _ := fun hf => (X123 hf).2.2.2.1
                have L123_2 : Im (fz s123 = 0) (LI s123 (rR σ 7) g123 v123 2 37 0) := fun hf => LI.z (fun h => (X123 hf).2.2.2.2.2)
                have rNMp_123 := e123_0 rNMp_78; clear e123_0
                have TPRp_123 := e123_1 TPRp_78; clear e123_1
                have WNp_123 := e123_2 WNp_78; clear e123_2
                have PNp_123 := e123_3 PNp_78; clear e123_3
                have CCp_123 := e123_4 CCp_78; clear e123_4
                refine ⟨g123, ?_⟩
                refine ⟨37, ?_⟩
                refine ⟨(by (try simp only [pre_X14_readArgs, Ks123]); (all_goals (repeat' (first | with_reducible intro _ | with_reducible apply And.intro | with_reducible refine Exists.intro g123 ?_ | with_reducible refine Im.and ?_ ?_))); all_goals (first | assumption | trivial | (unfold NBP; (try simp only [Ks123]); omega) | (unfold NBQ; (try simp only [Ks123]); omega) | omega | (exact fun hf_ => (A123 (by omega))) | (exact fun hf_ => Gu72 (by omega)) | (exact fun hf_ => Ku71 (by omega)) | (exact fun hf_ => (O123 (by omega)).cst) | (exact fun hf_ => L123_1 (by omega)) | (exact fun hf_ => L123_2 (by omega)) | (exact fun _ => ok1.i) | (exact fun hf_ => LI.z (fun h => absurd h (by decide))) | (exact fun hf_ => absurd hf_ (by omega)) | (exact fun hf_ => by omega) | (have zz_ := fz_z (by assumption); omega) | (split <;> omega) | done)), ?_⟩
                refine ⟨(by (try simp only [rk_X14_readArgs, Ks123]); (all_goals (repeat' (first | with_reducible intro _ | with_reducible apply And.intro | with_reducible refine Exists.intro g123 ?_ | with_reducible refine Im.and ?_ ?_))); all_goals (first | assumption | trivial | (unfold NBP; (try simp only [Ks123]); omega) | (unfold NBQ; (try simp only [Ks123]); omega) | omega | (exact fun hf_ => (A123 (by omega))) | (exact fun hf_ => Gu72 (by omega)) | (exact fun hf_ => Ku71 (by omega)) | (exact fun hf_ => (O123 (by omega)).cst) | (exact fun hf_ => L123_1 (by omega)) | (exact fun hf_ => L123_2 (by omega)) | (exact fun _ => ok1.i) | (exact fun hf_ => LI.z (fun h => absurd h (by decide))) | (exact fun hf_ => absurd hf_ (by omega)) | (exact fun hf_ => by omega) | (have zz_ := fz_z (by assumption); omega) | (split <;> omega) | done)), ?_⟩
                intro s131 Ws131 e131_0 e131_1 e131_2 e131_3 e131_4 e131_5 e131_6 e131_7 e131_8 e131_9 q131
                unfold post_X14_readArgs at q131
                obtain ⟨q131_1, q131_2, q131_3, q131_4, q131_5, q131_6⟩ := q131
                (try simp only [Ks123, NBP, NBQ] at q131_1 q131_2 q131_3 q131_4 q131_5 q131_6 e131_0 e131_1 e131_2 e131_3 e131_4 e131_5 e131_6 e131_7 e131_8 e131_9)
                have Ks131 : rR s131 7 = rR σ 7 := by (try simp only [rR_sF, rR_sA, rR_sT, rR_sL] at e131_0 e131_1 e131_2 e131_3 e131_4 e131_5 e131_6 e131_7 e131_8 e131_9); omega
                have zr131 := fz_rng s131
                have A131 : Im (fz s131 = 0) (RG σ s131 (rR σ 7) 0) := fun hf => RG.trk hp_2 (A123 (by omega)) (q131_5 (by omega)) (by omega)
                obtain ⟨g131, X131⟩ := q131_6
                have Ku73 : Im (fz s131 = 0) (GK g g131 (rF σ (rR σ 7) 7) (rF s131 (rR σ 7) 7) 0) := fun hf => GK.trans (Ku71 (by omega)) ((X131 hf).2.1) (by omega)
                have Gu74 : Im (fz s131 = 0) (GS s131 (rR σ 7) g131) := fun hf => (X131 hf).1
                have O131 : Im (fz s131 = 0) _ := fun hf => OP.lo (O123 (by omega)) ((X131 hf).2.1) ((X131 hf).2.2.1)
                have TPRp_131 := e131_0 TPRp_123; clear e131_0
                have CCp_131 := e131_1 CCp_123; clear e131_1
                obtain ⟨gu75, Xu76⟩ := EC_37 (P := fz s131 = 0) (rF s131 0 29) (fun hf => Gu74 (by omega)) (fun hf => O131 (by omega)) (fun hf => by omega)
                have O131u77 : Im (fz s131 = 0) _ := fun hf => (Xu76 hf).2.1
                have Ku78 : Im (fz s131 = 0) (GK g gu75 (rF σ (rR σ 7) 7) (rF s131 (rR σ 7) 7) 0) := fun hf => GK.kc (Ku73 (by omega)) (Xu76 hf).2.2 (by omega)
                have Gu79 : Im (fz s131 = 0) _ := fun hf => (Xu76 hf).1
                exact (by (try simp only [post_X14_readPrimary, Ks131]); (all_goals (repeat' (first | with_reducible intro _ | with_reducible apply And.intro | with_reducible refine Exists.intro gu75 ?_ | with_reducible refine Im.and ?_ ?_))); all_goals (first | assumption | trivial | (unfold NBP; (try simp only [Ks131]); omega) | (unfold NBQ; (try simp only [Ks131]); omega) | omega | (exact fun hf_ => (A131 (by omega))) | (exact fun hf_ => Gu79 (by omega)) | (exact fun hf_ => Ku78 (by omega)) | (exact fun hf_ => (O131u77 (by omega)).cst) | (exact fun _ => ok1.i) | (exact fun hf_ => LI.z (fun h => absurd h (by decide))) | (exact fun hf_ => absurd hf_ (by omega)) | (exact fun hf_ => by omega) | (have zz_ := fz_z (by assumption); omega) | (split <;> omega) | done))
              · have z94 := fz_n c94
                refine ⟨(by (try simp only [pre_X14_node_t, Ks78]); (all_goals (repeat' (first | with_reducible intro _ | with_reducible apply And.intro | with_reducible refine Exists.intro g67 ?_ | with_reducible refine Im.and ?_ ?_))); all_goals (first | assumption | trivial | (unfold NBP; (try simp only [Ks78]); omega) | (unfold NBQ; (try simp only [Ks78]); omega) | omega | (exact fun hf_ => (A78 (by omega))) | (exact fun hf_ => Gu63 (by omega)) | (exact fun hf_ => Ku62 (by omega)) | (exact fun hf_ => (r67u61 (by omega)).cst) | (exact fun _ => ok1.i) | (exact fun hf_ => LI.z (fun h => absurd h (by decide))) | (exact fun hf_ => absurd hf_ (by omega)) | (exact fun hf_ => by omega) | (have zz_ := fz_z (by assumption); omega) | (split <;> omega) | done)), ?_⟩
                intro v103 s103 hv103 Ws103 e103_0 e103_1 e103_2 e103_3 e103_4 e103_5 e103_6 e103_7 e103_8 e103_9 e103_10 e103_11 e103_12 e103_13 e103_14 e103_15 e103_16 e103_17 e103_18 e103_19 e103_20 e103_21 e103_22 e103_23 e103_24 q103
                unfold rng at hv103
                unfold post_X14_node_t at q103
                obtain ⟨q103_1, q103_2, q103_3, q103_4, q103_5, q103_6, q103_7, q103_8, q103_9⟩ := q103
                (try simp only [Ks78, NBP, NBQ] at q103_1 q103_2 q103_3 q103_4 q103_5 q103_6 q103_7 q103_8 q103_9 e103_0 e103_1 e103_2 e103_3 e103_4 e103_5 e103_6 e103_7 e103_8 e103_9 e103_10 e103_11 e103_12 e103_13 e103_14 e103_15 e103_16 e103_17 e103_18 e103_19 e103_20 e103_21 e103_22 e103_23 e103_24)
                have Ks103 : rR s103 7 = rR σ 7 := by (try simp only [rR_sF, rR_sA, rR_sT, rR_sL] at e103_0 e103_1 e103_2 e103_3 e103_4 e103_5 e103_6 e103_7 e103_8 e103_9 e103_10 e103_11 e103_12 e103_13 e103_14 e103_15 e103_16 e103_17 e103_18 e103_19 e103_20 e103_21 e103_22 e103_23 e103_24); omega
                have zr103 := fz_rng s103
                have A103 : Im (fz s103 = 0) (RG σ s103 (rR σ 7) 0) := fun hf => RG.trk hp_2 (A78 (by omega)) q103_3 (by omega)
                obtain ⟨g103, X103⟩ := EV_39 (P := fz s103 = 0) ((rF σ 0 29) + 1) (rF s67 0 31) hp_2 (fun hf => Gu63 (by omega)) (fun hf => r67u61 (by omega)) (fun _ h => h) (fun hf => q103_3) q103_1 q103_2 q103_4 q103_5 q103_6 q103_9 (fun hf => by (try simp only [rF_sT, rF_sA]); (repeat' (with_reducible apply And.intro)) <;> first | trivial | omega)
                have Ku80 : Im (fz s103 = 0) (GK g g103 (rF σ (rR σ 7) 7) (rF s103 (rR σ 7) 7) 0) := fun hf => GK.kv (Ku62 (by omega)) (X103 hf).2.1 (by omega)
                have Gu81 : Im (fz s103 = 0) _ := fun hf => (X103 hf).1
                have O103 : Im (fz s103 = 0) _ := fun hf => (X103 hf).2.2.1
                have L103_1 : Im (fz s103 = 0) _ := fun hf => (X103 hf).2.2.2.1
                have rNMp_103 := e103_0 rNMp_78; clear e103_0
                have TPRp_103 := e103_1 TPRp_78; clear e103_1
                have WNp_103 := e103_2 WNp_78; clear e103_2
                have PNp_103 := e103_3 PNp_78; clear e103_3
                have CCp_103 := e103_4 CCp_78; clear e103_4
                obtain ⟨gu82, Xu83⟩ := EC_39 (P := fz s103 = 0) (rF s78 0 29) (fun hf => Gu81 (by omega)) (fun hf => O103 (by omega)) (fun hf => by omega)
                have O103u84 : Im (fz s103 = 0) _ := fun hf => (Xu83 hf).2.1
                have Ku85 : Im (fz s103 = 0) (GK g gu82 (rF σ (rR σ 7) 7) (rF s103 (rR σ 7) 7) 0) := fun hf => GK.kc (Ku80 (by omega)) (Xu83 hf).2.2 (by omega)
                have Gu86 : Im (fz s103 = 0) _ := fun hf => (Xu83 hf).1
                exact (by (try simp only [post_X14_readPrimary, Ks103]); (all_goals (repeat' (first | with_reducible intro _ | with_reducible apply And.intro | with_reducible refine Exists.intro gu82 ?_ | with_reducible refine Im.and ?_ ?_))); all_goals (first | assumption | trivial | (unfold NBP; (try simp only [Ks103]); omega) | (unfold NBQ; (try simp only [Ks103]); omega) | omega | (exact fun hf_ => (A103 (by omega))) | (exact fun hf_ => Gu86 (by omega)) | (exact fun hf_ => Ku85 (by omega)) | (exact fun hf_ => (O103u84 (by omega)).cst) | (exact fun _ => ok1.i) | (exact fun hf_ => LI.z (fun h => absurd h (by decide))) | (exact fun hf_ => absurd hf_ (by omega)) | (exact fun hf_ => by omega) | (have zz_ := fz_z (by assumption); omega) | (split <;> omega) | done))
        · refine ⟨g, ?_⟩
          refine ⟨(by (try simp only [pre_X14_readRow]); (all_goals (repeat' (first | with_reducible intro _ | with_reducible apply And.intro | with_reducible refine Exists.intro g ?_ | with_reducible refine Im.and ?_ ?_))); all_goals (first | assumption | trivial | (unfold NBP; omega) | (unfold NBQ; omega) | omega | (exact fun hf_ => ((fun _ => RG.rf) (by omega))) | (exact fun hf_ => hp_8 (by omega)) | (exact fun hf_ => (fun _ => GK.rf) (by omega)) | (exact fun _ => ok1.i) | (exact fun hf_ => LI.z (fun h => absurd h (by decide))) | (exact fun hf_ => absurd hf_ (by omega)) | (exact fun hf_ => by omega) | (have zz_ := fz_z (by assumption); omega) | (split <;> omega) | done)), ?_⟩
          refine ⟨(by (try simp only [rk_X14_readRow]); (all_goals (repeat' (first | with_reducible intro _ | with_reducible apply And.intro | with_reducible refine Exists.intro g ?_ | with_reducible refine Im.and ?_ ?_))); all_goals (first | assumption | trivial | (unfold NBP; omega) | (unfold NBQ; omega) | omega | (exact fun hf_ => ((fun _ => RG.rf) (by omega))) | (exact fun hf_ => hp_8 (by omega)) | (exact fun hf_ => (fun _ => GK.rf) (by omega)) | (exact fun _ => ok1.i) | (exact fun hf_ => LI.z (fun h => absurd h (by decide))) | (exact fun hf_ => absurd hf_ (by omega)) | (exact fun hf_ => by omega) | (have zz_ := fz_z (by assumption); omega) | (split <;> omega) | done)), ?_⟩
          intro v46 s46 hv46 Ws46 e46_0 e46_1 e46_2 e46_3 e46_4 e46_5 e46_6 e46_7 e46_8 e46_9 q46
          unfold rng at hv46
          unfold post_X14_readRow at q46
          obtain ⟨q46_1, q46_2, q46_3, q46_4, q46_5, q46_6, q46_7, q46_8, q46_9⟩ := q46
          (try simp only [NBP, NBQ] at q46_1 q46_2 q46_3 q46_4 q46_5 q46_6 q46_7 q46_8 q46_9 e46_0 e46_1 e46_2 e46_3 e46_4 e46_5 e46_6 e46_7 e46_8 e46_9)
          have Ks46 : rR s46 7 = rR σ 7 := by (try simp only [rR_sF, rR_sA, rR_sT, rR_sL] at e46_0 e46_1 e46_2 e46_3 e46_4 e46_5 e46_6 e46_7 e46_8 e46_9); omega
          have zr46 := fz_rng s46
          have A46 : Im (fz s46 = 0) (RG σ s46 (rR σ 7) 0) := fun hf => RG.trk hp_2 ((fun _ => RG.rf) (by omega)) (q46_8 (by omega)) (by omega)
          obtain ⟨g46, X46⟩ := q46_9
          have Ku87 : Im (fz s46 = 0) (GK g g46 (rF σ (rR σ 7) 7) (rF s46 (rR σ 7) 7) 0) := fun hf => GK.trans ((fun _ => GK.rf) (by omega)) ((X46 hf).2.1) (by omega)
          have Gu88 : Im (fz s46 = 0) (GS s46 (rR σ 7) g46) := fun hf => (X46 hf).1
          have r46 : Im (fz s46 = 0) _ := fun hf => (X46 hf).2.2.1
          have TPRp_46 := e46_0 hC1; clear e46_0
          have CCp_46 := e46_1 hp_3; clear e46_1
          exact (by (try simp only [post_X14_readPrimary, Ks46]); (all_goals (repeat' (first | with_reducible intro _ | with_reducible apply And.intro | with_reducible refine Exists.intro g46 ?_ | with_reducible refine Im.and ?_ ?_))); all_goals (first | assumption | trivial | (unfold NBP; (try simp only [Ks46]); omega) | (unfold NBQ; (try simp only [Ks46]); omega) | omega | (exact fun hf_ => (A46 (by omega))) | (exact fun hf_ => Gu88 (by omega)) | (exact fun hf_ => Ku87 (by omega)) | (exact fun hf_ => (r46 (by omega)).cst) | (exact fun _ => ok1.i) | (exact fun hf_ => LI.z (fun h => absurd h (by decide))) | (exact fun hf_ => absurd hf_ (by omega)) | (exact fun hf_ => by omega) | (have zz_ := fz_z (by assumption); omega) | (split <;> omega) | done))
      · refine ⟨g, ?_⟩
        refine ⟨(by (try simp only [pre_X14_readSub]); (all_goals (repeat' (first | with_reducible intro _ | with_reducible apply And.intro | with_reducible refine Exists.intro g ?_ | with_reducible refine Im.and ?_ ?_))); all_goals (first | assumption | trivial | (unfold NBP; omega) | (unfold NBQ; omega) | omega | (exact fun hf_ => ((fun _ => RG.rf) (by omega))) | (exact fun hf_ => hp_8 (by omega)) | (exact fun hf_ => (fun _ => GK.rf) (by omega)) | (exact fun _ => ok1.i) | (exact fun hf_ => LI.z (fun h => absurd h (by decide))) | (exact fun hf_ => absurd hf_ (by omega)) | (exact fun hf_ => by omega) | (have zz_ := fz_z (by assumption); omega) | (split <;> omega) | done)), ?_⟩
        refine ⟨(by (try simp only [rk_X14_readSub]); (all_goals (repeat' (first | with_reducible intro _ | with_reducible apply And.intro | with_reducible refine Exists.intro g ?_ | with_reducible refine Im.and ?_ ?_))); all_goals (first | assumption | trivial | (unfold NBP; omega) | (unfold NBQ; omega) | omega | (exact fun hf_ => ((fun _ => RG.rf) (by omega))) | (exact fun hf_ => hp_8 (by omega)) | (exact fun hf_ => (fun _ => GK.rf) (by omega)) | (exact fun _ => ok1.i) | (exact fun hf_ => LI.z (fun h => absurd h (by decide))) | (exact fun hf_ => absurd hf_ (by omega)) | (exact fun hf_ => by omega) | (have zz_ := fz_z (by assumption); omega) | (split <;> omega) | done)), ?_⟩
        intro v35 s35 hv35 Ws35 e35_0 e35_1 e35_2 e35_3 e35_4 e35_5 e35_6 e35_7 e35_8 e35_9 q35
        unfold rng at hv35
        unfold post_X14_readSub at q35
        obtain ⟨q35_1, q35_2, q35_3, q35_4, q35_5, q35_6, q35_7, q35_8, q35_9⟩ := q35
        (try simp only [NBP, NBQ] at q35_1 q35_2 q35_3 q35_4 q35_5 q35_6 q35_7 q35_8 q35_9 e35_0 e35_1 e35_2 e35_3 e35_4 e35_5 e35_6 e35_7 e35_8 e35_9)
        have Ks35 : rR s35 7 = rR σ 7 := by (try simp only [rR_sF, rR_sA, rR_sT, rR_sL] at e35_0 e35_1 e35_2 e35_3 e35_4 e35_5 e35_6 e35_7 e35_8 e35_9); omega
        have zr35 := fz_rng s35
        have A35 : Im (fz s35 = 0) (RG σ s35 (rR σ 7) 0) := fun hf => RG.trk hp_2 ((fun _ => RG.rf) (by omega)) (q35_8 (by omega)) (by omega)
        obtain ⟨g35, X35⟩ := q35_9
        have Ku89 : Im (fz s35 = 0) (GK g g35 (rF σ (rR σ 7) 7) (rF s35 (rR σ 7) 7) 0) := fun hf => GK.trans ((fun _ => GK.rf) (by omega)) ((X35 hf).2.1) (by omega)
        have Gu90 : Im (fz s35 = 0) (GS s35 (rR σ 7) g35) := fun hf => (X35 hf).1
        have r35 : Im (fz s35 = 0) _ := fun hf => (X35 hf).2.2.1
        have TPRp_35 := e35_0 hC1; clear e35_0
        have CCp_35 := e35_1 hp_3; clear e35_1
        exact (by (try simp only [post_X14_readPrimary, Ks35]); (all_goals (repeat' (first | with_reducible intro _ | with_reducible apply And.intro | with_reducible refine Exists.intro g35 ?_ | with_reducible refine Im.and ?_ ?_))); all_goals (first | assumption | trivial | (unfold NBP; (try simp only [Ks35]); omega) | (unfold NBQ; (try simp only [Ks35]); omega) | omega | (exact fun hf_ => (A35 (by omega))) | (exact fun hf_ => Gu90 (by omega)) | (exact fun hf_ => Ku89 (by omega)) | (exact fun hf_ => (r35 (by omega)).cst) | (exact fun hf_ => ((r35 (by omega)).so so_10_2).cst) | (exact fun _ => ok1.i) | (exact fun hf_ => LI.z (fun h => absurd h (by decide))) | (exact fun hf_ => absurd hf_ (by omega)) | (exact fun hf_ => by omega) | (have zz_ := fz_z (by assumption); omega) | (split <;> omega) | done))
    · refine ⟨g, ?_⟩
      refine ⟨(by (try simp only [pre_X14_readString_g]); (all_goals (repeat' (first | with_reducible intro _ | with_reducible apply And.intro | with_reducible refine Exists.intro g ?_ | with_reducible refine Im.and ?_ ?_))); all_goals (first | assumption | trivial | (unfold NBP; omega) | (unfold NBQ; omega) | omega | (exact fun hf_ => ((fun _ => RG.rf) (by omega))) | (exact fun hf_ => hp_8 (by omega)) | (exact fun hf_ => (fun _ => GK.rf) (by omega)) | (exact fun _ => ok1.i) | (exact fun hf_ => LI.z (fun h => absurd h (by decide))) | (exact fun hf_ => absurd hf_ (by omega)) | (exact fun hf_ => by omega) | (have zz_ := fz_z (by assumption); omega) | (split <;> omega) | done)), ?_⟩
      intro v24 s24 hv24 Ws24 e24_0 e24_1 e24_2 e24_3 e24_4 e24_5 e24_6 e24_7 e24_8 e24_9 e24_10 e24_11 e24_12 e24_13 e24_14 e24_15 e24_16 e24_17 e24_18 e24_19 q24
      unfold rng at hv24
      unfold post_X14_readString_g at q24
      obtain ⟨q24_1, q24_2, q24_3, q24_4, q24_5, q24_6, q24_7, q24_8, q24_9, q24_10, q24_11, q24_12, q24_13, q24_14⟩ := q24
      (try simp only [NBP, NBQ] at q24_1 q24_2 q24_3 q24_4 q24_5 q24_6 q24_7 q24_8 q24_9 q24_10 q24_11 q24_12 q24_13 q24_14 e24_0 e24_1 e24_2 e24_3 e24_4 e24_5 e24_6 e24_7 e24_8 e24_9 e24_10 e24_11 e24_12 e24_13 e24_14 e24_15 e24_16 e24_17 e24_18 e24_19)
      have Ks24 : rR s24 7 = rR σ 7 := by (try simp only [rR_sF, rR_sA, rR_sT, rR_sL] at e24_0 e24_1 e24_2 e24_3 e24_4 e24_5 e24_6 e24_7 e24_8 e24_9 e24_10 e24_11 e24_12 e24_13 e24_14 e24_15 e24_16 e24_17 e24_18 e24_19); omega
      have zr24 := fz_rng s24
      have A24 : Im (fz s24 = 0) (RG σ s24 (rR σ 7) 0) := fun hf => RG.trk hp_2 ((fun _ => RG.rf) (by omega)) (q24_13 (by omega)) (by omega)
      obtain ⟨g24, X24⟩ := q24_14
      have Ku91 : Im (fz s24 = 0) (GK g g24 (rF σ (rR σ 7) 7) (rF s24 (rR σ 7) 7) 0) := fun hf => GK.trans ((fun _ => GK.rf) (by omega)) ((X24 hf).2.1) (by omega)
      have Gu92 : Im (fz s24 = 0) (GS s24 (rR σ 7) g24) := fun hf => (X24 hf).1
      have r24 : Im (fz s24 = 0) _ := fun hf => (X24 hf).2.2.1
      have TPRp_24 := e24_0 hC1; clear e24_0
      have WNp_24 := e24_1 hp_6; clear e24_1
      have PNp_24 := e24_2 hp_7; clear e24_2
      have CCp_24 := e24_3 hp_3; clear e24_3
      exact (by (try simp only [post_X14_readPrimary, Ks24]); (all_goals (repeat' (first | with_reducible intro _ | with_reducible apply And.intro | with_reducible refine Exists.intro g24 ?_ | with_reducible refine Im.and ?_ ?_))); all_goals (first | assumption | trivial | (unfold NBP; (try simp only [Ks24]); omega) | (unfold NBQ; (try simp only [Ks24]); omega) | omega | (exact fun hf_ => (A24 (by omega))) | (exact fun hf_ => Gu92 (by omega)) | (exact fun hf_ => Ku91 (by omega)) | (exact fun hf_ => (r24 (by omega)).cst) | (exact fun _ => ok1.i) | (exact fun hf_ => LI.z (fun h => absurd h (by decide))) | (exact fun hf_ => absurd hf_ (by omega)) | (exact fun hf_ => by omega) | (have zz_ := fz_z (by assumption); omega) | (split <;> omega) | done))
set_option maxHeartbeats 4000000 in
theorem vX14_readNot (n : Nat) (σ : rS) (gg : Nat) (g : Nat → Int → Int) (hwf : rWF σ) (hp : pre_X14_readNot σ gg g) (hr : rk_X14_readNot σ gg g ≤ n + 1) : VC_X14_readNot n σ gg g (post_X14_readNot σ gg g) := by
  unfold pre_X14_readNot at hp
  obtain ⟨hp_1, hp_2, hp_3, hp_4, hp_5, hp_6, hp_7, hp_8⟩ := hp
  subst hp_1
  unfold rk_X14_readNot at hr
  have hN := hp_4
  unfold NBP at hN
  have hC := hp_3
  unfold CCp at hC
  obtain ⟨hC1, hC⟩ := hC
  have zr0 := fz_rng σ
  have hr2 : fz σ = 0 → 16 * (21 - rF σ 0 31).toNat + 9 ≤ n + 1 := fun h => by rw [if_pos h] at hr; exact hr
  have hr3 : 9 ≤ n + 1 := by have := hr; split at this <;> omega
  clear hr
  unfold VC_X14_readNot
  refine ⟨(by (all_goals (repeat' (first | with_reducible intro _ | with_reducible apply And.intro))); all_goals (first | assumption | trivial | (unfold NBP; omega) | (unfold NBQ; omega) | omega | (have zz_ := fz_z (by assumption); omega) | (split <;> omega) | done)), ?_⟩
  refine ⟨(by (try simp only [pre_X14_blanks]); (all_goals (repeat' (first | with_reducible intro _ | with_reducible apply And.intro | with_reducible refine Exists.intro g ?_ | with_reducible refine Im.and ?_ ?_))); all_goals (first | assumption | trivial | (unfold NBP; omega) | (unfold NBQ; omega) | omega | (exact fun hf_ => ((fun _ => RG.rf) (by omega))) | (exact fun hf_ => hp_8 (by omega)) | (exact fun hf_ => (fun _ => GK.rf) (by omega)) | (exact fun _ => ok1.i) | (exact fun hf_ => LI.z (fun h => absurd h (by decide))) | (exact fun hf_ => absurd hf_ (by omega)) | (exact fun hf_ => by omega) | (have zz_ := fz_z (by assumption); omega) | (split <;> omega) | done)), ?_⟩
  intro s1 Ws1 e1_0 e1_1 e1_2 e1_3 e1_4 e1_5 e1_6 e1_7 e1_8 e1_9 e1_10 e1_11 e1_12 e1_13 e1_14 e1_15 e1_16 e1_17 e1_18 e1_19 e1_20 e1_21 e1_22 R1 q1
  have q1 := dig_blanks q1 (by omega)
  obtain ⟨q1_1, q1_2⟩ := q1
  (try simp only [NBP, NBQ] at q1_1 q1_2 e1_0 e1_1 e1_2 e1_3 e1_4 e1_5 e1_6 e1_7 e1_8 e1_9 e1_10 e1_11 e1_12 e1_13 e1_14 e1_15 e1_16 e1_17 e1_18 e1_19 e1_20 e1_21 e1_22 R1)
  have Ks1 : rR s1 7 = rR σ 7 := by (try simp only [rR_sF, rR_sA, rR_sT, rR_sL] at e1_0 e1_1 e1_2 e1_3 e1_4 e1_5 e1_6 e1_7 e1_8 e1_9 e1_10 e1_11 e1_12 e1_13 e1_14 e1_15 e1_16 e1_17 e1_18 e1_19 e1_20 e1_21 e1_22 R1); omega
  have zr1 := fz_rng s1
  have A1 : Im (fz s1 = 0) (RG σ s1 (rR σ 7) 0) := fun hf => RG.trk hp_2 ((fun _ => RG.rf) (by omega)) R1 (by omega)
  have Ku1 : Im (fz s1 = 0) (GK g g (rF σ (rR σ 7) 7) (rF s1 (rR σ 7) 7) 0) := fun hf => GK.trans ((fun _ => GK.rf) (by omega)) (GK.up (N := rF σ (rR σ 7) 7) (N' := rF s1 (rR σ 7) 7) (c := 0) (by first | omega | (simp only [rF_sT, rF_sA]; omega))) (by omega)
  have Gu2 : Im (fz s1 = 0) (GS s1 (rR σ 7) g) := fun hf => GS.mv hp_2 (hp_8 (by omega)) R1
  have rNMp_1 := e1_0 hp_5; clear e1_0
  have TPRp_1 := e1_1 hC1; clear e1_1
  have WNp_1 := e1_2 hp_6; clear e1_2
  have PNp_1 := e1_3 hp_7; clear e1_3
  have CCp_1 := e1_4 hp_3; clear e1_4
  intro hr_; unfold rng at hr_
  refine ⟨fun c8 => ?_, fun c8 => ?_⟩
  · have z8 := fz_z c8
    refine ⟨(by (try simp only [pre_X14_place, Ks1]); (all_goals (repeat' (first | with_reducible intro _ | with_reducible apply And.intro | with_reducible refine Exists.intro g ?_ | with_reducible refine Im.and ?_ ?_))); all_goals (first | assumption | trivial | (unfold NBP; (try simp only [Ks1]); omega) | (unfold NBQ; (try simp only [Ks1]); omega) | omega | (exact fun hf_ => (A1 (by omega))) | (exact fun hf_ => Gu2 (by omega)) | (exact fun hf_ => Ku1 (by omega)) | (exact fun _ => ok1.i) | (exact fun hf_ => LI.z (fun h => absurd h (by decide))) | (exact fun hf_ => absurd hf_ (by omega)) | (exact fun hf_ => by omega) | (have zz_ := fz_z (by assumption); omega) | (split <;> omega) | done)), ?_⟩
    intro v14 hv14 q14
    unfold rng at hv14
    unfold post_X14_place at q14
    obtain ⟨q14_1, q14_2⟩ := q14
    (try simp only [Ks1, NBP, NBQ] at q14_1 q14_2)
    refine ⟨(by (try simp only [pre_X14_here, Ks1]); (all_goals (repeat' (first | with_reducible intro _ | with_reducible apply And.intro | with_reducible refine Exists.intro g ?_ | with_reducible refine Im.and ?_ ?_))); all_goals (first | assumption | trivial | (unfold NBP; (try simp only [Ks1]); omega) | (unfold NBQ; (try simp only [Ks1]); omega) | omega | (exact fun hf_ => (A1 (by omega))) | (exact fun hf_ => Gu2 (by omega)) | (exact fun hf_ => Ku1 (by omega)) | (exact fun _ => ok1.i) | (exact fun hf_ => LI.z (fun h => absurd h (by decide))) | (exact fun hf_ => absurd hf_ (by omega)) | (exact fun hf_ => by omega) | (have zz_ := fz_z (by assumption); omega) | (split <;> omega) | done)), ?_⟩
    intro v19 hv19 q19
    unfold rng at hv19
    unfold post_X14_here at q19
    obtain ⟨q19_1, q19_2⟩ := q19
    (try simp only [Ks1, NBP, NBQ] at q19_1 q19_2)
    refine ⟨fun c24 => ?_, fun c24 => ?_⟩
    · refine ⟨(by (try simp only [pre_X14_here, Ks1]); (all_goals (repeat' (first | with_reducible intro _ | with_reducible apply And.intro | with_reducible refine Exists.intro g ?_ | with_reducible refine Im.and ?_ ?_))); all_goals (first | assumption | trivial | (unfold NBP; (try simp only [Ks1]); omega) | (unfold NBQ; (try simp only [Ks1]); omega) | omega | (exact fun hf_ => (A1 (by omega))) | (exact fun hf_ => Gu2 (by omega)) | (exact fun hf_ => Ku1 (by omega)) | (exact fun _ => ok1.i) | (exact fun hf_ => LI.z (fun h => absurd h (by decide))) | (exact fun hf_ => absurd hf_ (by omega)) | (exact fun hf_ => by omega) | (have zz_ := fz_z (by assumption); omega) | (split <;> omega) | done)), ?_⟩
      intro v68 hv68 q68
      unfold rng at hv68
      unfold post_X14_here at q68
      obtain ⟨q68_1, q68_2⟩ := q68
      (try simp only [Ks1, NBP, NBQ] at q68_1 q68_2)
      refine ⟨fun c73 => ?_, fun c73 => ?_⟩
      · refine ⟨g, ?_⟩
        refine ⟨(by (try simp only [pre_X14_readMember, Ks1]); (all_goals (repeat' (first | with_reducible intro _ | with_reducible apply And.intro | with_reducible refine Exists.intro g ?_ | with_reducible refine Im.and ?_ ?_))); all_goals (first | assumption | trivial | (unfold NBP; (try simp only [Ks1]); omega) | (unfold NBQ; (try simp only [Ks1]); omega) | omega | (exact fun hf_ => (A1 (by omega))) | (exact fun hf_ => Gu2 (by omega)) | (exact fun hf_ => Ku1 (by omega)) | (exact fun _ => ok1.i) | (exact fun hf_ => LI.z (fun h => absurd h (by decide))) | (exact fun hf_ => absurd hf_ (by omega)) | (exact fun hf_ => by omega) | (have zz_ := fz_z (by assumption); omega) | (split <;> omega) | done)), ?_⟩
        refine ⟨(by (try simp only [rk_X14_readMember, Ks1]); (all_goals (repeat' (first | with_reducible intro _ | with_reducible apply And.intro | with_reducible refine Exists.intro g ?_ | with_reducible refine Im.and ?_ ?_))); all_goals (first | assumption | trivial | (unfold NBP; (try simp only [Ks1]); omega) | (unfold NBQ; (try simp only [Ks1]); omega) | omega | (exact fun hf_ => (A1 (by omega))) | (exact fun hf_ => Gu2 (by omega)) | (exact fun hf_ => Ku1 (by omega)) | (exact fun _ => ok1.i) | (exact fun hf_ => LI.z (fun h => absurd h (by decide))) | (exact fun hf_ => absurd hf_ (by omega)) | (exact fun hf_ => by omega) | (have zz_ := fz_z (by assumption); omega) | (split <;> omega) | done)), ?_⟩
        intro v126 s126 hv126 Ws126 e126_0 e126_1 e126_2 e126_3 e126_4 e126_5 e126_6 e126_7 e126_8 e126_9 q126
        unfold rng at hv126
        unfold post_X14_readMember at q126
        obtain ⟨q126_1, q126_2, q126_3, q126_4, q126_5, q126_6, q126_7, q126_8, q126_9⟩ := q126
        (try simp only [Ks1, NBP, NBQ] at q126_1 q126_2 q126_3 q126_4 q126_5 q126_6 q126_7 q126_8 q126_9 e126_0 e126_1 e126_2 e126_3 e126_4 e126_5 e126_6 e126_7 e126_8 e126_9)
        have Ks126 : rR s126 7 = rR σ 7 := by (try simp only [rR_sF, rR_sA, rR_sT, rR_sL] at e126_0 e126_1 e126_2 e126_3 e126_4 e126_5 e126_6 e126_7 e126_8 e126_9); omega
        have zr126 := fz_rng s126
        have A126 : Im (fz s126 = 0) (RG σ s126 (rR σ 7) 0) := fun hf => RG.trk hp_2 (A1 (by omega)) (q126_8 (by omega)) (by omega)
        obtain ⟨g126, X126⟩ := q126_9
        have Ku3 : Im (fz s126 = 0) (GK g g126 (rF σ (rR σ 7) 7) (rF s126 (rR σ 7) 7) 0) := fun hf => GK.trans (Ku1 (by omega)) ((X126 hf).2.1) (by omega)
        have Gu4 : Im (fz s126 = 0) (GS s126 (rR σ 7) g126) := fun hf => (X126 hf).1
        have r126 : Im (fz s126 = 0) _ := fun hf => (X126 hf).2.2.1
        have TPRp_126 := e126_0 TPRp_1; clear e126_0
        have CCp_126 := e126_1 CCp_1; clear e126_1
        refine ⟨(by (try simp only [pre_X14_node_t, Ks126]); (all_goals (repeat' (first | with_reducible intro _ | with_reducible apply And.intro | with_reducible refine Exists.intro g126 ?_ | with_reducible refine Im.and ?_ ?_))); all_goals (first | assumption | trivial | (unfold NBP; (try simp only [Ks126]); omega) | (unfold NBQ; (try simp only [Ks126]); omega) | omega | (exact fun hf_ => (A126 (by omega))) | (exact fun hf_ => Gu4 (by omega)) | (exact fun hf_ => Ku3 (by omega)) | (exact fun hf_ => (r126 (by omega)).cst) | (exact fun _ => ok1.i) | (exact fun hf_ => LI.z (fun h => absurd h (by decide))) | (exact fun hf_ => absurd hf_ (by omega)) | (exact fun hf_ => by omega) | (have zz_ := fz_z (by assumption); omega) | (split <;> omega) | done)), ?_⟩
        intro v131 s131 hv131 Ws131 e131_0 e131_1 e131_2 e131_3 e131_4 e131_5 e131_6 e131_7 e131_8 e131_9 e131_10 e131_11 e131_12 e131_13 e131_14 e131_15 e131_16 e131_17 e131_18 e131_19 e131_20 e131_21 e131_22 q131
        unfold rng at hv131
        unfold post_X14_node_t at q131
        obtain ⟨q131_1, q131_2, q131_3, q131_4, q131_5, q131_6, q131_7, q131_8, q131_9⟩ := q131
        (try simp only [Ks126, NBP, NBQ] at q131_1 q131_2 q131_3 q131_4 q131_5 q131_6 q131_7 q131_8 q131_9 e131_0 e131_1 e131_2 e131_3 e131_4 e131_5 e131_6 e131_7 e131_8 e131_9 e131_10 e131_11 e131_12 e131_13 e131_14 e131_15 e131_16 e131_17 e131_18 e131_19 e131_20 e131_21 e131_22)
        have Ks131 : rR s131 7 = rR σ 7 := by (try simp only [rR_sF, rR_sA, rR_sT, rR_sL] at e131_0 e131_1 e131_2 e131_3 e131_4 e131_5 e131_6 e131_7 e131_8 e131_9 e131_10 e131_11 e131_12 e131_13 e131_14 e131_15 e131_16 e131_17 e131_18 e131_19 e131_20 e131_21 e131_22); omega
        have zr131 := fz_rng s131
        have A131 : Im (fz s131 = 0) (RG σ s131 (rR σ 7) 0) := fun hf => RG.trk hp_2 (A126 (by omega)) q131_3 (by omega)
        obtain ⟨g131, X131⟩ := EV_58 (P := fz s131 = 0) (rF s1 0 29) (rF s126 0 31) hp_2 (fun hf => Gu4 (by omega)) (fun hf => r126 (by omega)) (fun _ h => h) (fun hf => q131_3) q131_1 q131_2 q131_4 q131_5 q131_6 q131_9 (fun hf => by (try simp only [rF_sT, rF_sA]); (repeat' (with_reducible apply And.intro)) <;> first | trivial | omega)
        have Ku5 : Im (fz s131 = 0) (GK g g131 (rF σ (rR σ 7) 7) (rF s131 (rR σ 7) 7) 0) := fun hf => GK.kv (Ku3 (by omega)) (X131 hf).2.1 (by omega)
        have Gu6 : Im (fz s131 = 0) _ := fun hf => (X131 hf).1
        have O131 : Im (fz s131 = 0) _ := fun hf => (X131 hf).2.2.1
        have L131_1 : Im (fz s131 = 0) _ := fun hf => (X131 hf).2.2.2.1
        have rNMp_131 := e131_0 q126_2; clear e131_0
        have TPRp_131 := e131_1 TPRp_126; clear e131_1
        have WNp_131 := e131_2 q126_3; clear e131_2
        have PNp_131 := e131_3 q126_4; clear e131_3
        have CCp_131 := e131_4 CCp_126; clear e131_4
        obtain ⟨gu7, Xu8⟩ := EC_58 (P := fz s131 = 0) (rF s126 0 29) (fun hf => Gu6 (by omega)) (fun hf => O131 (by omega)) (fun hf => by omega)
        have O131u9 : Im (fz s131 = 0) _ := fun hf => (Xu8 hf).2.1
        have Ku10 : Im (fz s131 = 0) (GK g gu7 (rF σ (rR σ 7) 7) (rF s131 (rR σ 7) 7) 0) := fun hf => GK.kc (Ku5 (by omega)) (Xu8 hf).2.2 (by omega)
        have Gu11 : Im (fz s131 = 0) _ := fun hf => (Xu8 hf).1
        exact (by (try simp only [post_X14_readNot, Ks131]); (all_goals (repeat' (first | with_reducible intro _ | with_reducible apply And.intro | with_reducible refine Exists.intro gu7 ?_ | with_reducible refine Im.and ?_ ?_))); all_goals (first | assumption | trivial | (unfold NBP; (try simp only [Ks131]); omega) | (unfold NBQ; (try simp only [Ks131]); omega) | omega | (exact fun hf_ => (A131 (by omega))) | (exact fun hf_ => Gu11 (by omega)) | (exact fun hf_ => Ku10 (by omega)) | (exact fun hf_ => (O131u9 (by omega)).cst) | (exact fun hf_ => ((O131u9 (by omega)).so so_16_15).cst) | (exact fun hf_ => ((O131u9 (by omega)).so so_16_14).cst) | (exact fun _ => ok1.i) | (exact fun hf_ => LI.z (fun h => absurd h (by decide))) | (exact fun hf_ => absurd hf_ (by omega)) | (exact fun hf_ => by omega) | (have zz_ := fz_z (by assumption); omega) | (split <;> omega) | done))
      · refine ⟨(by (try simp only [pre_X14_deeper, Ks1]); (all_goals (repeat' (first | with_reducible intro _ | with_reducible apply And.intro | with_reducible refine Exists.intro g ?_ | with_reducible refine Im.and ?_ ?_))); all_goals (first | assumption | trivial | (unfold NBP; (try simp only [Ks1]); omega) | (unfold NBQ; (try simp only [Ks1]); omega) | omega | (exact fun hf_ => (A1 (by omega))) | (exact fun hf_ => Gu2 (by omega)) | (exact fun hf_ => Ku1 (by omega)) | (exact fun _ => ok1.i) | (exact fun hf_ => LI.z (fun h => absurd h (by decide))) | (exact fun hf_ => absurd hf_ (by omega)) | (exact fun hf_ => by omega) | (have zz_ := fz_z (by assumption); omega) | (split <;> omega) | done)), ?_⟩
        intro s78 Ws78 e78_0 e78_1 e78_2 e78_3 e78_4 e78_5 e78_6 e78_7 e78_8 e78_9 e78_10 e78_11 e78_12 e78_13 e78_14 e78_15 e78_16 e78_17 e78_18 e78_19 e78_20 R78 q78
        have q78 := dig_deeper q78 (by (try simp only [Ks1]); omega)
        obtain ⟨q78_1, q78_2, q78_3⟩ := q78
        (try simp only [Ks1, NBP, NBQ] at q78_1 q78_2 q78_3 e78_0 e78_1 e78_2 e78_3 e78_4 e78_5 e78_6 e78_7 e78_8 e78_9 e78_10 e78_11 e78_12 e78_13 e78_14 e78_15 e78_16 e78_17 e78_18 e78_19 e78_20 R78)
        have Ks78 : rR s78 7 = rR σ 7 := by (try simp only [rR_sF, rR_sA, rR_sT, rR_sL] at e78_0 e78_1 e78_2 e78_3 e78_4 e78_5 e78_6 e78_7 e78_8 e78_9 e78_10 e78_11 e78_12 e78_13 e78_14 e78_15 e78_16 e78_17 e78_18 e78_19 e78_20 R78); omega
        have zr78 := fz_rng s78
        have A78 : Im (fz s78 = 0) (RG σ s78 (rR σ 7) 0) := fun hf => RG.trk hp_2 (A1 (by omega)) R78 (by omega)
        have Ku12 : Im (fz s78 = 0) (GK g g (rF σ (rR σ 7) 7) (rF s78 (rR σ 7) 7) 0) := fun hf => GK.trans (Ku1 (by omega)) (GK.up (N := rF s1 (rR σ 7) 7) (N' := rF s78 (rR σ 7) 7) (c := 0) (by first | omega | (simp only [rF_sT, rF_sA]; omega))) (by omega)
        have Gu13 : Im (fz s78 = 0) (GS s78 (rR σ 7) g) := fun hf => GS.mv hp_2 (Gu2 (by omega)) R78
        have rNMp_78 := e78_0 rNMp_1; clear e78_0
        have TPRp_78 := e78_1 TPRp_1; clear e78_1
        have WNp_78 := e78_2 WNp_1; clear e78_2
        have PNp_78 := e78_3 PNp_1; clear e78_3
        have CCp_78 := e78_4 CCp_1; clear e78_4
        intro hr_; unfold rng at hr_
        refine ⟨(by (try simp only [rng, Ks78]); (all_goals (repeat' (first | with_reducible intro _ | with_reducible apply And.intro | with_reducible refine Exists.intro g ?_ | with_reducible refine Im.and ?_ ?_))); all_goals (first | assumption | trivial | (unfold NBP; (try simp only [Ks78]); omega) | (unfold NBQ; (try simp only [Ks78]); omega) | omega | (exact fun hf_ => (A78 (by omega))) | (exact fun hf_ => Gu13 (by omega)) | (exact fun hf_ => Ku12 (by omega)) | (exact fun _ => ok1.i) | (exact fun hf_ => LI.z (fun h => absurd h (by decide))) | (exact fun hf_ => absurd hf_ (by omega)) | (exact fun hf_ => by omega) | (have zz_ := fz_z (by assumption); omega) | (split <;> omega) | done)), ?_⟩
        refine ⟨g, ?_⟩
        refine ⟨(by (try simp only [pre_X14_readCond, reduceIte, and_true, true_and, and_false, false_and, and_self, Nat.reduceEqDiff, fz_sF29, rF_sF, rA_sF, rR_sF, tr_sF, rNMp_sF, PNp_sF, GS_F29, OP_F29, NR_F29, LI_F29, RG_l29, RG_r29, TPRp_sF29, WNp_sF29, VMp_sF29, KYp_sF29, PPp_sF29, WFp_sF29, CCp_sF29, rk_n0 hp_2, Ks78]); (all_goals (repeat' (first | with_reducible intro _ | with_reducible apply And.intro | with_reducible refine Exists.intro g ?_ | with_reducible refine Im.and ?_ ?_))); all_goals (first | assumption | trivial | (unfold NBP; (try simp only [reduceIte, and_true, true_and, and_false, false_and, and_self, Nat.reduceEqDiff, fz_sF29, rF_sF, rA_sF, rR_sF, tr_sF, rNMp_sF, PNp_sF, GS_F29, OP_F29, NR_F29, LI_F29, RG_l29, RG_r29, TPRp_sF29, WNp_sF29, VMp_sF29, KYp_sF29, PPp_sF29, WFp_sF29, CCp_sF29, rk_n0 hp_2, Ks78]); omega) | (unfold NBQ; (try simp only [reduceIte, and_true, true_and, and_false, false_and, and_self, Nat.reduceEqDiff, fz_sF29, rF_sF, rA_sF, rR_sF, tr_sF, rNMp_sF, PNp_sF, GS_F29, OP_F29, NR_F29, LI_F29, RG_l29, RG_r29, TPRp_sF29, WNp_sF29, VMp_sF29, KYp_sF29, PPp_sF29, WFp_sF29, CCp_sF29, rk_n0 hp_2, Ks78]); omega) | omega | (exact fun hf_ => (A78 (by omega))) | (exact fun hf_ => Gu13 (by omega)) | (exact fun hf_ => Ku12 (by omega)) | (exact fun _ => ok1.i) | (exact fun hf_ => LI.z (fun h => absurd h (by decide))) | (exact fun hf_ => absurd hf_ (by omega)) | (exact fun hf_ => by omega) | (have zz_ := fz_z (by assumption); omega) | (split <;> omega) | done)), ?_⟩
        refine ⟨(by (try simp only [rk_X14_readCond, reduceIte, and_true, true_and, and_false, false_and, and_self, Nat.reduceEqDiff, fz_sF29, rF_sF, rA_sF, rR_sF, tr_sF, rNMp_sF, PNp_sF, GS_F29, OP_F29, NR_F29, LI_F29, RG_l29, RG_r29, TPRp_sF29, WNp_sF29, VMp_sF29, KYp_sF29, PPp_sF29, WFp_sF29, CCp_sF29, rk_n0 hp_2, Ks78]); (all_goals (repeat' (first | with_reducible intro _ | with_reducible apply And.intro | with_reducible refine Exists.intro g ?_ | with_reducible refine Im.and ?_ ?_))); all_goals (first | assumption | trivial | (unfold NBP; (try simp only [reduceIte, and_true, true_and, and_false, false_and, and_self, Nat.reduceEqDiff, fz_sF29, rF_sF, rA_sF, rR_sF, tr_sF, rNMp_sF, PNp_sF, GS_F29, OP_F29, NR_F29, LI_F29, RG_l29, RG_r29, TPRp_sF29, WNp_sF29, VMp_sF29, KYp_sF29, PPp_sF29, WFp_sF29, CCp_sF29, rk_n0 hp_2, Ks78]); omega) | (unfold NBQ; (try simp only [reduceIte, and_true, true_and, and_false, false_and, and_self, Nat.reduceEqDiff, fz_sF29, rF_sF, rA_sF, rR_sF, tr_sF, rNMp_sF, PNp_sF, GS_F29, OP_F29, NR_F29, LI_F29, RG_l29, RG_r29, TPRp_sF29, WNp_sF29, VMp_sF29, KYp_sF29, PPp_sF29, WFp_sF29, CCp_sF29, rk_n0 hp_2, Ks78]); omega) | omega | (exact fun hf_ => (A78 (by omega))) | (exact fun hf_ => Gu13 (by omega)) | (exact fun hf_ => Ku12 (by omega)) | (exact fun _ => ok1.i) | (exact fun hf_ => LI.z (fun h => absurd h (by decide))) | (exact fun hf_ => absurd hf_ (by omega)) | (exact fun hf_ => by omega) | (have zz_ := fz_z (by assumption); omega) | (split <;> omega) | done)), ?_⟩
        intro v95 s95 hv95 Ws95 e95_0 e95_1 e95_2 e95_3 e95_4 e95_5 e95_6 e95_7 e95_8 e95_9 q95
        unfold rng at hv95
        unfold post_X14_readCond at q95
        obtain ⟨q95_1, q95_2, q95_3, q95_4, q95_5, q95_6, q95_7, q95_8, q95_9⟩ := q95
        (try simp only [reduceIte, and_true, true_and, and_false, false_and, and_self, Nat.reduceEqDiff, fz_sF29, rF_sF, rA_sF, rR_sF, tr_sF, rNMp_sF, PNp_sF, GS_F29, OP_F29, NR_F29, LI_F29, RG_l29, RG_r29, TPRp_sF29, WNp_sF29, VMp_sF29, KYp_sF29, PPp_sF29, WFp_sF29, CCp_sF29, rk_n0 hp_2, Ks78, NBP, NBQ] at q95_1 q95_2 q95_3 q95_4 q95_5 q95_6 q95_7 q95_8 q95_9 e95_0 e95_1 e95_2 e95_3 e95_4 e95_5 e95_6 e95_7 e95_8 e95_9)
        have Ks95 : rR s95 7 = rR σ 7 := by (try simp only [rR_sF, rR_sA, rR_sT, rR_sL] at e95_0 e95_1 e95_2 e95_3 e95_4 e95_5 e95_6 e95_7 e95_8 e95_9); omega
        have zr95 := fz_rng s95
        have A95 : Im (fz s95 = 0) (RG σ s95 (rR σ 7) 0) := fun hf => RG.trk hp_2 (A78 (by omega)) (q95_8 (by omega)) (by omega)
        obtain ⟨g95, X95⟩ := q95_9
        have Ku14 : Im (fz s95 = 0) (GK g g95 (rF σ (rR σ 7) 7) (rF s95 (rR σ 7) 7) 0) := fun hf => GK.trans (Ku12 (by omega)) ((X95 hf).2.1) (by omega)
        have Gu15 : Im (fz s95 = 0) (GS s95 (rR σ 7) g95) := fun hf => (X95 hf).1
        have r95 : Im (fz s95 = 0) _ := fun hf => (X95 hf).2.2.1
        have TPRp_95 := e95_0 TPRp_78; clear e95_0
        have CCp_95 := e95_1 CCp_78; clear e95_1
        refine ⟨(by (try simp only [pre_X14_node_t, Ks95]); (all_goals (repeat' (first | with_reducible intro _ | with_reducible apply And.intro | with_reducible refine Exists.intro g95 ?_ | with_reducible refine Im.and ?_ ?_))); all_goals (first | assumption | trivial | (unfold NBP; (try simp only [Ks95]); omega) | (unfold NBQ; (try simp only [Ks95]); omega) | omega | (exact fun hf_ => (A95 (by omega))) | (exact fun hf_ => Gu15 (by omega)) | (exact fun hf_ => Ku14 (by omega)) | (exact fun hf_ => (r95 (by omega)).cst) | (exact fun _ => ok1.i) | (exact fun hf_ => LI.z (fun h => absurd h (by decide))) | (exact fun hf_ => absurd hf_ (by omega)) | (exact fun hf_ => by omega) | (have zz_ := fz_z (by assumption); omega) | (split <;> omega) | done)), ?_⟩
        intro v100 s100 hv100 Ws100 e100_0 e100_1 e100_2 e100_3 e100_4 e100_5 e100_6 e100_7 e100_8 e100_9 e100_10 e100_11 e100_12 e100_13 e100_14 e100_15 e100_16 e100_17 e100_18 e100_19 e100_20 e100_21 e100_22 q100
        unfold rng at hv100
        unfold post_X14_node_t at q100
        obtain ⟨q100_1, q100_2, q100_3, q100_4, q100_5, q100_6, q100_7, q100_8, q100_9⟩ := q100
        (try simp only [Ks95, NBP, NBQ] at q100_1 q100_2 q100_3 q100_4 q100_5 q100_6 q100_7 q100_8 q100_9 e100_0 e100_1 e100_2 e100_3 e100_4 e100_5 e100_6 e100_7 e100_8 e100_9 e100_10 e100_11 e100_12 e100_13 e100_14 e100_15 e100_16 e100_17 e100_18 e100_19 e100_20 e100_21 e100_22)
        have Ks100 : rR s100 7 = rR σ 7 := by (try simp only [rR_sF, rR_sA, rR_sT, rR_sL] at e100_0 e100_1 e100_2 e100_3 e100_4 e100_5 e100_6 e100_7 e100_8 e100_9 e100_10 e100_11 e100_12 e100_13 e100_14 e100_15 e100_16 e100_17 e100_18 e100_19 e100_20 e100_21 e100_22); omega
        have zr100 := fz_rng s100
        have A100 : Im (fz s100 = 0) (RG σ s100 (rR σ 7) 0) := fun hf => RG.trk hp_2 (A95 (by omega)) q100_3 (by omega)
        obtain ⟨g100, X100⟩ := EV_59 (P := fz s100 = 0) ((rF s1 0 29) + 1) (rF σ 0 31) hp_2 (fun hf => Gu15 (by omega)) (fun hf => r95 (by omega)) (fun _ h => h) (fun hf => q100_3) q100_1 q100_2 q100_4 q100_5 q100_6 q100_9 (fun hf => by (try simp only [rF_sT, rF_sA]); (repeat' (with_reducible apply And.intro)) <;> first | trivial | omega)
        have Ku16 : Im (fz s100 = 0) (GK g g100 (rF σ (rR σ 7) 7) (rF s100 (rR σ 7) 7) 0) := fun hf => GK.kv (Ku14 (by omega)) (X100 hf).2.1 (by omega)
        have Gu17 : Im (fz s100 = 0) _ := fun hf => (X100 hf).1
        have O100 : Im (fz s100 = 0) _ := fun hf => (X100 hf).2.2.1
        have L100_1 : Im (fz s100 = 0) _ := fun hf => (X100 hf).2.2.2.1
        have rNMp_100 := e100_0 q95_2; clear e100_0
        have TPRp_100 := e100_1 TPRp_95; clear e100_1
        have WNp_100 := e100_2 q95_3; clear e100_2
        have PNp_100 := e100_3 q95_4; clear e100_3
        have CCp_100 := e100_4 CCp_95; clear e100_4
        refine ⟨(by (try simp only [pre_X14_need, Ks100]); (all_goals (repeat' (first | with_reducible intro _ | with_reducible apply And.intro | with_reducible refine Exists.intro g100 ?_ | with_reducible refine Im.and ?_ ?_))); all_goals (first | assumption | trivial | (unfold NBP; (try simp only [Ks100]); omega) | (unfold NBQ; (try simp only [Ks100]); omega) | omega | (exact fun hf_ => (A100 (by omega))) | (exact fun hf_ => Gu17 (by omega)) | (exact fun hf_ => Ku16 (by omega)) | (exact fun hf_ => (O100 (by omega)).cst) | (exact fun hf_ => L100_1 (by omega)) | (exact fun _ => ok1.i) | (exact fun hf_ => LI.z (fun h => absurd h (by decide))) | (exact fun hf_ => absurd hf_ (by omega)) | (exact fun hf_ => by omega) | (have zz_ := fz_z (by assumption); omega) | (split <;> omega) | done)), ?_⟩
        intro s107 Ws107 e107_0 e107_1 e107_2 e107_3 e107_4 e107_5 e107_6 e107_7 e107_8 e107_9 e107_10 e107_11 e107_12 e107_13 e107_14 e107_15 e107_16 e107_17 e107_18 e107_19 e107_20 R107 q107
        have q107 := dig_need q107 (by (try simp only [Ks100]); omega)
        obtain ⟨q107_1, q107_2, q107_3, q107_4⟩ := q107
        (try simp only [Ks100, NBP, NBQ] at q107_1 q107_2 q107_3 q107_4 e107_0 e107_1 e107_2 e107_3 e107_4 e107_5 e107_6 e107_7 e107_8 e107_9 e107_10 e107_11 e107_12 e107_13 e107_14 e107_15 e107_16 e107_17 e107_18 e107_19 e107_20 R107)
        have Ks107 : rR s107 7 = rR σ 7 := by (try simp only [rR_sF, rR_sA, rR_sT, rR_sL] at e107_0 e107_1 e107_2 e107_3 e107_4 e107_5 e107_6 e107_7 e107_8 e107_9 e107_10 e107_11 e107_12 e107_13 e107_14 e107_15 e107_16 e107_17 e107_18 e107_19 e107_20 R107); omega
        have zr107 := fz_rng s107
        have A107 : Im (fz s107 = 0) (RG σ s107 (rR σ 7) 0) := fun hf => RG.trk hp_2 (A100 (by omega)) R107 (by omega)
        have O100u18 : Im (fz s107 = 0) _ := fun hf => OP.gk0 (O100 (by omega)) (GK.up (g := g100) (N := rF s100 (rR σ 7) 7) (N' := rF s107 (rR σ 7) 7) (c := 0) (by first | omega | (simp only [rF_sT, rF_sA]; omega)))
        have L100_1u19 : Im (fz s107 = 0) _ := fun hf => LI.gk0 hp_2 (L100_1 (by omega)) (O100 (by omega)) R107 (GK.up (g := g100) (N := rF s100 (rR σ 7) 7) (N' := rF s107 (rR σ 7) 7) (c := 0) (by first | omega | (simp only [rF_sT, rF_sA]; omega)))
        have Ku20 : Im (fz s107 = 0) (GK g g100 (rF σ (rR σ 7) 7) (rF s107 (rR σ 7) 7) 0) := fun hf => GK.trans (Ku16 (by omega)) (GK.up (N := rF s100 (rR σ 7) 7) (N' := rF s107 (rR σ 7) 7) (c := 0) (by first | omega | (simp only [rF_sT, rF_sA]; omega))) (by omega)
        have Gu21 : Im (fz s107 = 0) (GS s107 (rR σ 7) g100) := fun hf => GS.mv hp_2 (Gu17 (by omega)) R107
        have rNMp_107 := e107_0 rNMp_100; clear e107_0
        have TPRp_107 := e107_1 TPRp_100; clear e107_1
        have WNp_107 := e107_2 WNp_100; clear e107_2
        have PNp_107 := e107_3 PNp_100; clear e107_3
        have CCp_107 := e107_4 CCp_100; clear e107_4
        intro hr_; unfold rng at hr_
        refine ⟨(by (try simp only [rng, Ks107]); (all_goals (repeat' (first | with_reducible intro _ | with_reducible apply And.intro | with_reducible refine Exists.intro g100 ?_ | with_reducible refine Im.and ?_ ?_))); all_goals (first | assumption | trivial | (unfold NBP; (try simp only [Ks107]); omega) | (unfold NBQ; (try simp only [Ks107]); omega) | omega | (exact fun hf_ => (A107 (by omega))) | (exact fun hf_ => Gu21 (by omega)) | (exact fun hf_ => Ku20 (by omega)) | (exact fun hf_ => (O100u18 (by omega)).cst) | (exact fun hf_ => L100_1u19 (by omega)) | (exact fun _ => ok1.i) | (exact fun hf_ => LI.z (fun h => absurd h (by decide))) | (exact fun hf_ => absurd hf_ (by omega)) | (exact fun hf_ => by omega) | (have zz_ := fz_z (by assumption); omega) | (split <;> omega) | done)), ?_⟩
        obtain ⟨gu22, Xu23⟩ := EC_59 (P := fz s107 = 0) (rF s107 0 29) (fun hf => Gu21 (by omega)) (fun hf => O100u18 (by omega)) (fun hf => by omega)
        have O100u24 : Im (fz s107 = 0) _ := fun hf => (Xu23 hf).2.1
        have Ku25 : Im (fz s107 = 0) (GK g gu22 (rF σ (rR σ 7) 7) (rF s107 (rR σ 7) 7) 0) := fun hf => GK.kc (Ku20 (by omega)) (Xu23 hf).2.2 (by omega)
        have Gu26 : Im (fz s107 = 0) _ := fun hf => (Xu23 hf).1
        exact (by (try simp only [post_X14_readNot, reduceIte, and_true, true_and, and_false, false_and, and_self, Nat.reduceEqDiff, fz_sF31, rF_sF, rA_sF, rR_sF, tr_sF, rNMp_sF, PNp_sF, GS_F31, OP_F31, NR_F31, LI_F31, RG_l31, RG_r31, TPRp_sF31, WNp_sF31, VMp_sF31, KYp_sF31, PPp_sF31, WFp_sF31, CCp_sF31, rk_n0 hp_2, Ks107]); (all_goals (repeat' (first | with_reducible intro _ | with_reducible apply And.intro | with_reducible refine Exists.intro gu22 ?_ | with_reducible refine Im.and ?_ ?_))); all_goals (first | assumption | trivial | (unfold NBP; (try simp only [reduceIte, and_true, true_and, and_false, false_and, and_self, Nat.reduceEqDiff, fz_sF31, rF_sF, rA_sF, rR_sF, tr_sF, rNMp_sF, PNp_sF, GS_F31, OP_F31, NR_F31, LI_F31, RG_l31, RG_r31, TPRp_sF31, WNp_sF31, VMp_sF31, KYp_sF31, PPp_sF31, WFp_sF31, CCp_sF31, rk_n0 hp_2, Ks107]); omega) | (unfold NBQ; (try simp only [reduceIte, and_true, true_and, and_false, false_and, and_self, Nat.reduceEqDiff, fz_sF31, rF_sF, rA_sF, rR_sF, tr_sF, rNMp_sF, PNp_sF, GS_F31, OP_F31, NR_F31, LI_F31, RG_l31, RG_r31, TPRp_sF31, WNp_sF31, VMp_sF31, KYp_sF31, PPp_sF31, WFp_sF31, CCp_sF31, rk_n0 hp_2, Ks107]); omega) | omega | (exact fun hf_ => (A107 (by omega))) | (exact fun hf_ => Gu26 (by omega)) | (exact fun hf_ => Ku25 (by omega)) | (exact fun hf_ => (O100u24 (by omega)).cst) | (exact fun hf_ => ((O100u24 (by omega)).so so_16_15).cst) | (exact fun hf_ => ((O100u24 (by omega)).so so_16_14).cst) | (exact fun _ => ok1.i) | (exact fun hf_ => LI.z (fun h => absurd h (by decide))) | (exact fun hf_ => absurd hf_ (by omega)) | (exact fun hf_ => by omega) | (have zz_ := fz_z (by assumption); omega) | (split <;> omega) | done))
    · refine ⟨(by (try simp only [pre_X14_deeper, Ks1]); (all_goals (repeat' (first | with_reducible intro _ | with_reducible apply And.intro | with_reducible refine Exists.intro g ?_ | with_reducible refine Im.and ?_ ?_))); all_goals (first | assumption | trivial | (unfold NBP; (try simp only [Ks1]); omega) | (unfold NBQ; (try simp only [Ks1]); omega) | omega | (exact fun hf_ => (A1 (by omega))) | (exact fun hf_ => Gu2 (by omega)) | (exact fun hf_ => Ku1 (by omega)) | (exact fun _ => ok1.i) | (exact fun hf_ => LI.z (fun h => absurd h (by decide))) | (exact fun hf_ => absurd hf_ (by omega)) | (exact fun hf_ => by omega) | (have zz_ := fz_z (by assumption); omega) | (split <;> omega) | done)), ?_⟩
      intro s29 Ws29 e29_0 e29_1 e29_2 e29_3 e29_4 e29_5 e29_6 e29_7 e29_8 e29_9 e29_10 e29_11 e29_12 e29_13 e29_14 e29_15 e29_16 e29_17 e29_18 e29_19 e29_20 R29 q29
      have q29 := dig_deeper q29 (by (try simp only [Ks1]); omega)
      obtain ⟨q29_1, q29_2, q29_3⟩ := q29
      (try simp only [Ks1, NBP, NBQ] at q29_1 q29_2 q29_3 e29_0 e29_1 e29_2 e29_3 e29_4 e29_5 e29_6 e29_7 e29_8 e29_9 e29_10 e29_11 e29_12 e29_13 e29_14 e29_15 e29_16 e29_17 e29_18 e29_19 e29_20 R29)
      have Ks29 : rR s29 7 = rR σ 7 := by (try simp only [rR_sF, rR_sA, rR_sT, rR_sL] at e29_0 e29_1 e29_2 e29_3 e29_4 e29_5 e29_6 e29_7 e29_8 e29_9 e29_10 e29_11 e29_12 e29_13 e29_14 e29_15 e29_16 e29_17 e29_18 e29_19 e29_20 R29); omega
      have zr29 := fz_rng s29
      have A29 : Im (fz s29 = 0) (RG σ s29 (rR σ 7) 0) := fun hf => RG.trk hp_2 (A1 (by omega)) R29 (by omega)
      have Ku27 : Im (fz s29 = 0) (GK g g (rF σ (rR σ 7) 7) (rF s29 (rR σ 7) 7) 0) := fun hf => GK.trans (Ku1 (by omega)) (GK.up (N := rF s1 (rR σ 7) 7) (N' := rF s29 (rR σ 7) 7) (c := 0) (by first | omega | (simp only [rF_sT, rF_sA]; omega))) (by omega)
      have Gu28 : Im (fz s29 = 0) (GS s29 (rR σ 7) g) := fun hf => GS.mv hp_2 (Gu2 (by omega)) R29
      have rNMp_29 := e29_0 rNMp_1; clear e29_0
      have TPRp_29 := e29_1 TPRp_1; clear e29_1
      have WNp_29 := e29_2 WNp_1; clear e29_2
      have PNp_29 := e29_3 PNp_1; clear e29_3
      have CCp_29 := e29_4 CCp_1; clear e29_4
      intro hr_; unfold rng at hr_
      refine ⟨(by (try simp only [rng, Ks29]); (all_goals (repeat' (first | with_reducible intro _ | with_reducible apply And.intro | with_reducible refine Exists.intro g ?_ | with_reducible refine Im.and ?_ ?_))); all_goals (first | assumption | trivial | (unfold NBP; (try simp only [Ks29]); omega) | (unfold NBQ; (try simp only [Ks29]); omega) | omega | (exact fun hf_ => (A29 (by omega))) | (exact fun hf_ => Gu28 (by omega)) | (exact fun hf_ => Ku27 (by omega)) | (exact fun _ => ok1.i) | (exact fun hf_ => LI.z (fun h => absurd h (by decide))) | (exact fun hf_ => absurd hf_ (by omega)) | (exact fun hf_ => by omega) | (have zz_ := fz_z (by assumption); omega) | (split <;> omega) | done)), ?_⟩
      refine ⟨g, ?_⟩
      refine ⟨(by (try simp only [pre_X14_readNot, reduceIte, and_true, true_and, and_false, false_and, and_self, Nat.reduceEqDiff, fz_sF29, rF_sF, rA_sF, rR_sF, tr_sF, rNMp_sF, PNp_sF, GS_F29, OP_F29, NR_F29, LI_F29, RG_l29, RG_r29, TPRp_sF29, WNp_sF29, VMp_sF29, KYp_sF29, PPp_sF29, WFp_sF29, CCp_sF29, rk_n0 hp_2, Ks29]); (all_goals (repeat' (first | with_reducible intro _ | with_reducible apply And.intro | with_reducible refine Exists.intro g ?_ | with_reducible refine Im.and ?_ ?_))); all_goals (first | assumption | trivial | (unfold NBP; (try simp only [reduceIte, and_true, true_and, and_false, false_and, and_self, Nat.reduceEqDiff, fz_sF29, rF_sF, rA_sF, rR_sF, tr_sF, rNMp_sF, PNp_sF, GS_F29, OP_F29, NR_F29, LI_F29, RG_l29, RG_r29, TPRp_sF29, WNp_sF29, VMp_sF29, KYp_sF29, PPp_sF29, WFp_sF29, CCp_sF29, rk_n0 hp_2, Ks29]); omega) | (unfold NBQ; (try simp only [reduceIte, and_true, true_and, and_false, false_and, and_self, Nat.reduceEqDiff, fz_sF29, rF_sF, rA_sF, rR_sF, tr_sF, rNMp_sF, PNp_sF, GS_F29, OP_F29, NR_F29, LI_F29, RG_l29, RG_r29, TPRp_sF29, WNp_sF29, VMp_sF29, KYp_sF29, PPp_sF29, WFp_sF29, CCp_sF29, rk_n0 hp_2, Ks29]); omega) | omega | (exact fun hf_ => (A29 (by omega))) | (exact fun hf_ => Gu28 (by omega)) | (exact fun hf_ => Ku27 (by omega)) | (exact fun _ => ok1.i) | (exact fun hf_ => LI.z (fun h => absurd h (by decide))) | (exact fun hf_ => absurd hf_ (by omega)) | (exact fun hf_ => by omega) | (have zz_ := fz_z (by assumption); omega) | (split <;> omega) | done)), ?_⟩
      refine ⟨(by (try simp only [rk_X14_readNot, reduceIte, and_true, true_and, and_false, false_and, and_self, Nat.reduceEqDiff, fz_sF29, rF_sF, rA_sF, rR_sF, tr_sF, rNMp_sF, PNp_sF, GS_F29, OP_F29, NR_F29, LI_F29, RG_l29, RG_r29, TPRp_sF29, WNp_sF29, VMp_sF29, KYp_sF29, PPp_sF29, WFp_sF29, CCp_sF29, rk_n0 hp_2, Ks29]); (all_goals (repeat' (first | with_reducible intro _ | with_reducible apply And.intro | with_reducible refine Exists.intro g ?_ | with_reducible refine Im.and ?_ ?_))); all_goals (first | assumption | trivial | (unfold NBP; (try simp only [reduceIte, and_true, true_and, and_false, false_and, and_self, Nat.reduceEqDiff, fz_sF29, rF_sF, rA_sF, rR_sF, tr_sF, rNMp_sF, PNp_sF, GS_F29, OP_F29, NR_F29, LI_F29, RG_l29, RG_r29, TPRp_sF29, WNp_sF29, VMp_sF29, KYp_sF29, PPp_sF29, WFp_sF29, CCp_sF29, rk_n0 hp_2, Ks29]); omega) | (unfold NBQ; (try simp only [reduceIte, and_true, true_and, and_false, false_and, and_self, Nat.reduceEqDiff, fz_sF29, rF_sF, rA_sF, rR_sF, tr_sF, rNMp_sF, PNp_sF, GS_F29, OP_F29, NR_F29, LI_F29, RG_l29, RG_r29, TPRp_sF29, WNp_sF29, VMp_sF29, KYp_sF29, PPp_sF29, WFp_sF29, CCp_sF29, rk_n0 hp_2, Ks29]); omega) | omega | (exact fun hf_ => (A29 (by omega))) | (exact fun hf_ => Gu28 (by omega)) | (exact fun hf_ => Ku27 (by omega)) | (exact fun _ => ok1.i) | (exact fun hf_ => LI.z (fun h => absurd h (by decide))) | (exact fun hf_ => absurd hf_ (by omega)) | (exact fun hf_ => by omega) | (have zz_ := fz_z (by assumption); omega) | (split <;> omega) | done)), ?_⟩
      intro v46 s46 hv46 Ws46 e46_0 e46_1 e46_2 e46_3 e46_4 e46_5 e46_6 e46_7 e46_8 e46_9 q46
      unfold rng at hv46
      unfold post_X14_readNot at q46
      obtain ⟨q46_1, q46_2, q46_3, q46_4, q46_5, q46_6, q46_7, q46_8, q46_9⟩ := q46
      (try simp only [reduceIte, and_true, true_and, and_false, false_and, and_self, Nat.reduceEqDiff, fz_sF29, rF_sF, rA_sF, rR_sF, tr_sF, rNMp_sF, PNp_sF, GS_F29, OP_F29, NR_F29, LI_F29, RG_l29, RG_r29, TPRp_sF29, WNp_sF29, VMp_sF29, KYp_sF29, PPp_sF29, WFp_sF29, CCp_sF29, rk_n0 hp_2, Ks29, NBP, NBQ] at q46_1 q46_2 q46_3 q46_4 q46_5 q46_6 q46_7 q46_8 q46_9 e46_0 e46_1 e46_2 e46_3 e46_4 e46_5 e46_6 e46_7 e46_8 e46_9)
      have Ks46 : rR s46 7 = rR σ 7 := by (try simp only [rR_sF, rR_sA, rR_sT, rR_sL] at e46_0 e46_1 e46_2 e46_3 e46_4 e46_5 e46_6 e46_7 e46_8 e46_9); omega
      have zr46 := fz_rng s46
      have A46 : Im (fz s46 = 0) (RG σ s46 (rR σ 7) 0) := fun hf => RG.trk hp_2 (A29 (by omega)) (q46_8 (by omega)) (by omega)
      obtain ⟨g46, X46⟩ := q46_9
      have Ku29 : Im (fz s46 = 0) (GK g g46 (rF σ (rR σ 7) 7) (rF s46 (rR σ 7) 7) 0) := fun hf => GK.trans (Ku27 (by omega)) ((X46 hf).2.1) (by omega)
      have Gu30 : Im (fz s46 = 0) (GS s46 (rR σ 7) g46) := fun hf => (X46 hf).1
      have r46 : Im (fz s46 = 0) _ := fun hf => (X46 hf).2.2.1
      have TPRp_46 := e46_0 TPRp_29; clear e46_0
      have CCp_46 := e46_1 CCp_29; clear e46_1
      refine ⟨(by (try simp only [pre_X14_node_t, Ks46]); (all_goals (repeat' (first | with_reducible intro _ | with_reducible apply And.intro | with_reducible refine Exists.intro g46 ?_ | with_reducible refine Im.and ?_ ?_))); all_goals (first | assumption | trivial | (unfold NBP; (try simp only [Ks46]); omega) | (unfold NBQ; (try simp only [Ks46]); omega) | omega | (exact fun hf_ => (A46 (by omega))) | (exact fun hf_ => Gu30 (by omega)) | (exact fun hf_ => Ku29 (by omega)) | (exact fun hf_ => (r46 (by omega)).cst) | (exact fun hf_ => ((r46 (by omega)).so so_16_15).cst) | (exact fun hf_ => ((r46 (by omega)).so so_16_14).cst) | (exact fun _ => ok1.i) | (exact fun hf_ => LI.z (fun h => absurd h (by decide))) | (exact fun hf_ => absurd hf_ (by omega)) | (exact fun hf_ => by omega) | (have zz_ := fz_z (by assumption); omega) | (split <;> omega) | done)), ?_⟩
      intro v51 s51 hv51 Ws51 e51_0 e51_1 e51_2 e51_3 e51_4 e51_5 e51_6 e51_7 e51_8 e51_9 e51_10 e51_11 e51_12 e51_13 e51_14 e51_15 e51_16 e51_17 e51_18 e51_19 e51_20 e51_21 e51_22 q51
      unfold rng at hv51
      unfold post_X14_node_t at q51
      obtain ⟨q51_1, q51_2, q51_3, q51_4, q51_5, q51_6, q51_7, q51_8, q51_9⟩ := q51
      (try simp only [Ks46, NBP, NBQ] at q51_1 q51_2 q51_3 q51_4 q51_5 q51_6 q51_7 q51_8 q51_9 e51_0 e51_1 e51_2 e51_3 e51_4 e51_5 e51_6 e51_7 e51_8 e51_9 e51_10 e51_11 e51_12 e51_13 e51_14 e51_15 e51_16 e51_17 e51_18 e51_19 e51_20 e51_21 e51_22)
      have Ks51 : rR s51 7 = rR σ 7 := by (try simp only [rR_sF, rR_sA, rR_sT, rR_sL] at e51_0 e51_1 e51_2 e51_3 e51_4 e51_5 e51_6 e51_7 e51_8 e51_9 e51_10 e51_11 e51_12 e51_13 e51_14 e51_15 e51_16 e51_17 e51_18 e51_19 e51_20 e51_21 e51_22); omega
      have zr51 := fz_rng s51
      have A51 : Im (fz s51 = 0) (RG σ s51 (rR σ 7) 0) := fun hf => RG.trk hp_2 (A46 (by omega)) q51_3 (by omega)
      obtain ⟨g51, X51⟩ := EV_57 (P := fz s51 = 0) ((rF s1 0 29) + 1) (rF σ 0 31) hp_2 (fun hf => Gu30 (by omega)) (fun hf => r46 (by omega)) (fun _ h => h) (fun hf => q51_3) q51_1 q51_2 q51_4 q51_5 q51_6 q51_9 (fun hf => by (try simp only [rF_sT, rF_sA]); (repeat' (with_reducible apply And.intro)) <;> first | trivial | omega)
      have Ku31 : Im (fz s51 = 0) (GK g g51 (rF σ (rR σ 7) 7) (rF s51 (rR σ 7) 7) 0) := fun hf => GK.kv (Ku29 (by omega)) (X51 hf).2.1 (by omega)
      have Gu32 : Im (fz s51 = 0) _ := fun hf => (X51 hf).1
      have O51 : Im (fz s51 = 0) _ := fun hf => (X51 hf).2.2.1
      have L51_1 : Im (fz s51 = 0) _ := fun hf => (X51 hf).2.2.2.1
      have rNMp_51 := e51_0 q46_2; clear e51_0
      have TPRp_51 := e51_1 TPRp_46; clear e51_1
      have WNp_51 := e51_2 q46_3; clear e51_2
      have PNp_51 := e51_3 q46_4; clear e51_3
      have CCp_51 := e51_4 CCp_46; clear e51_4
      intro hr_; unfold rng at hr_
      refine ⟨(by (try simp only [rng, Ks51]); (all_goals (repeat' (first | with_reducible intro _ | with_reducible apply And.intro | with_reducible refine Exists.intro g51 ?_ | with_reducible refine Im.and ?_ ?_))); all_goals (first | assumption | trivial | (unfold NBP; (try simp only [Ks51]); omega) | (unfold NBQ; (try simp only [Ks51]); omega) | omega | (exact fun hf_ => (A51 (by omega))) | (exact fun hf_ => Gu32 (by omega)) | (exact fun hf_ => Ku31 (by omega)) | (exact fun hf_ => (O51 (by omega)).cst) | (exact fun hf_ => L51_1 (by omega)) | (exact fun _ => ok1.i) | (exact fun hf_ => LI.z (fun h => absurd h (by decide))) | (exact fun hf_ => absurd hf_ (by omega)) | (exact fun hf_ => by omega) | (have zz_ := fz_z (by assumption); omega) | (split <;> omega) | done)), ?_⟩
      obtain ⟨gu33, Xu34⟩ := EC_57 (P := fz s51 = 0) (rF s46 0 29) (fun hf => Gu32 (by omega)) (fun hf => O51 (by omega)) (fun hf => by omega)
      have O51u35 : Im (fz s51 = 0) _ := fun hf => (Xu34 hf).2.1
      have Ku36 : Im (fz s51 = 0) (GK g gu33 (rF σ (rR σ 7) 7) (rF s51 (rR σ 7) 7) 0) := fun hf => GK.kc (Ku31 (by omega)) (Xu34 hf).2.2 (by omega)
      have Gu37 : Im (fz s51 = 0) _ := fun hf => (Xu34 hf).1
      exact (by (try simp only [post_X14_readNot, reduceIte, and_true, true_and, and_false, false_and, and_self, Nat.reduceEqDiff, fz_sF31, rF_sF, rA_sF, rR_sF, tr_sF, rNMp_sF, PNp_sF, GS_F31, OP_F31, NR_F31, LI_F31, RG_l31, RG_r31, TPRp_sF31, WNp_sF31, VMp_sF31, KYp_sF31, PPp_sF31, WFp_sF31, CCp_sF31, rk_n0 hp_2, Ks51]); (all_goals (repeat' (first | with_reducible intro _ | with_reducible apply And.intro | with_reducible refine Exists.intro gu33 ?_ | with_reducible refine Im.and ?_ ?_))); all_goals (first | assumption | trivial | (unfold NBP; (try simp only [reduceIte, and_true, true_and, and_false, false_and, and_self, Nat.reduceEqDiff, fz_sF31, rF_sF, rA_sF, rR_sF, tr_sF, rNMp_sF, PNp_sF, GS_F31, OP_F31, NR_F31, LI_F31, RG_l31, RG_r31, TPRp_sF31, WNp_sF31, VMp_sF31, KYp_sF31, PPp_sF31, WFp_sF31, CCp_sF31, rk_n0 hp_2, Ks51]); omega) | (unfold NBQ; (try simp only [reduceIte, and_true, true_and, and_false, false_and, and_self, Nat.reduceEqDiff, fz_sF31, rF_sF, rA_sF, rR_sF, tr_sF, rNMp_sF, PNp_sF, GS_F31, OP_F31, NR_F31, LI_F31, RG_l31, RG_r31, TPRp_sF31, WNp_sF31, VMp_sF31, KYp_sF31, PPp_sF31, WFp_sF31, CCp_sF31, rk_n0 hp_2, Ks51]); omega) | omega | (exact fun hf_ => (A51 (by omega))) | (exact fun hf_ => Gu37 (by omega)) | (exact fun hf_ => Ku36 (by omega)) | (exact fun hf_ => (O51u35 (by omega)).cst) | (exact fun hf_ => ((O51u35 (by omega)).so so_16_15).cst) | (exact fun hf_ => ((O51u35 (by omega)).so so_16_14).cst) | (exact fun _ => ok1.i) | (exact fun hf_ => LI.z (fun h => absurd h (by decide))) | (exact fun hf_ => absurd hf_ (by omega)) | (exact fun hf_ => by omega) | (have zz_ := fz_z (by assumption); omega) | (split <;> omega) | done))
  · have z8 := fz_n c8
    exact (by (try simp only [post_X14_readNot, Ks1]); (all_goals (repeat' (first | with_reducible intro _ | with_reducible apply And.intro | with_reducible refine Exists.intro g ?_ | with_reducible refine Im.and ?_ ?_))); all_goals (first | assumption | trivial | (unfold NBP; (try simp only [Ks1]); omega) | (unfold NBQ; (try simp only [Ks1]); omega) | omega | (exact fun hf_ => (A1 (by omega))) | (exact fun hf_ => Gu2 (by omega)) | (exact fun hf_ => Ku1 (by omega)) | (exact fun _ => ok1.i) | (exact fun hf_ => LI.z (fun h => absurd h (by decide))) | (exact fun hf_ => absurd hf_ (by omega)) | (exact fun hf_ => by omega) | (have zz_ := fz_z (by assumption); omega) | (split <;> omega) | done))
set_option maxHeartbeats 4000000 in
theorem vX14_readBoth (n : Nat) (σ : rS) (gg : Nat) (g : Nat → Int → Int) (hwf : rWF σ) (hp : pre_X14_readBoth σ gg g) (hr : rk_X14_readBoth σ gg g ≤ n + 1) : VC_X14_readBoth n σ gg g (post_X14_readBoth σ gg g) := by
  unfold pre_X14_readBoth at hp
  obtain ⟨hp_1, hp_2, hp_3, hp_4, hp_5, hp_6, hp_7, hp_8⟩ := hp
  subst hp_1
  unfold rk_X14_readBoth at hr
  have hN := hp_4
  unfold NBP at hN
  have hC := hp_3
  unfold CCp at hC
  obtain ⟨hC1, hC⟩ := hC
  have zr0 := fz_rng σ
  have hr2 : fz σ = 0 → 16 * (21 - rF σ 0 31).toNat + 10 ≤ n + 1 := fun h => by rw [if_pos h] at hr; exact hr
  have hr3 : 10 ≤ n + 1 := by have := hr; split at this <;> omega
  clear hr
  unfold VC_X14_readBoth
  refine ⟨(by (all_goals (repeat' (first | with_reducible intro _ | with_reducible apply And.intro))); all_goals (first | assumption | trivial | (unfold NBP; omega) | (unfold NBQ; omega) | omega | (have zz_ := fz_z (by assumption); omega) | (split <;> omega) | done)), ?_⟩
  refine ⟨g, ?_⟩
  refine ⟨(by (try simp only [pre_X14_readNot]); (all_goals (repeat' (first | with_reducible intro _ | with_reducible apply And.intro | with_reducible refine Exists.intro g ?_ | with_reducible refine Im.and ?_ ?_))); all_goals (first | assumption | trivial | (unfold NBP; omega) | (unfold NBQ; omega) | omega | (exact fun hf_ => ((fun _ => RG.rf) (by omega))) | (exact fun hf_ => hp_8 (by omega)) | (exact fun hf_ => (fun _ => GK.rf) (by omega)) | (exact fun _ => ok1.i) | (exact fun hf_ => LI.z (fun h => absurd h (by decide))) | (exact fun hf_ => absurd hf_ (by omega)) | (exact fun hf_ => by omega) | (have zz_ := fz_z (by assumption); omega) | (split <;> omega) | done)), ?_⟩
  refine ⟨(by (try simp only [rk_X14_readNot]); (all_goals (repeat' (first | with_reducible intro _ | with_reducible apply And.intro | with_reducible refine Exists.intro g ?_ | with_reducible refine Im.and ?_ ?_))); all_goals (first | assumption | trivial | (unfold NBP; omega) | (unfold NBQ; omega) | omega | (exact fun hf_ => ((fun _ => RG.rf) (by omega))) | (exact fun hf_ => hp_8 (by omega)) | (exact fun hf_ => (fun _ => GK.rf) (by omega)) | (exact fun _ => ok1.i) | (exact fun hf_ => LI.z (fun h => absurd h (by decide))) | (exact fun hf_ => absurd hf_ (by omega)) | (exact fun hf_ => by omega) | (have zz_ := fz_z (by assumption); omega) | (split <;> omega) | done)), ?_⟩
  intro v1 s1 hv1 Ws1 e1_0 e1_1 e1_2 e1_3 e1_4 e1_5 e1_6 e1_7 q1
  unfold rng at hv1
  unfold post_X14_readNot at q1
  obtain ⟨q1_1, q1_2, q1_3, q1_4, q1_5, q1_6, q1_7, q1_8, q1_9⟩ := q1
  (try simp only [NBP, NBQ] at q1_1 q1_2 q1_3 q1_4 q1_5 q1_6 q1_7 q1_8 q1_9 e1_0 e1_1 e1_2 e1_3 e1_4 e1_5 e1_6 e1_7)
  have Ks1 : rR s1 7 = rR σ 7 := by (try simp only [rR_sF, rR_sA, rR_sT, rR_sL] at e1_0 e1_1 e1_2 e1_3 e1_4 e1_5 e1_6 e1_7); omega
  have zr1 := fz_rng s1
  have A1 : Im (fz s1 = 0) (RG σ s1 (rR σ 7) 0) := fun hf => RG.trk hp_2 ((fun _ => RG.rf) (by omega)) (q1_8 (by omega)) (by omega)
  obtain ⟨g1, X1⟩ := q1_9
  have Ku1 : Im (fz s1 = 0) (GK g g1 (rF σ (rR σ 7) 7) (rF s1 (rR σ 7) 7) 0) := fun hf => GK.trans ((fun _ => GK.rf) (by omega)) ((X1 hf).2.1) (by omega)
  have Gu2 : Im (fz s1 = 0) (GS s1 (rR σ 7) g1) := fun hf => (X1 hf).1
  have r1 : Im (fz s1 = 0) _ := fun hf => (X1 hf).2.2.1
  have CCp_1 := e1_0 hp_3; clear e1_0
  refine ⟨(by (try simp only [pre_X14_blanks, Ks1]); (all_goals (repeat' (first | with_reducible intro _ | with_reducible apply And.intro | with_reducible refine Exists.intro g1 ?_ | with_reducible refine Im.and ?_ ?_))); all_goals (first | assumption | trivial | (unfold NBP; (try simp only [Ks1]); omega) | (unfold NBQ; (try simp only [Ks1]); omega) | omega | (exact fun hf_ => (A1 (by omega))) | (exact fun hf_ => Gu2 (by omega)) | (exact fun hf_ => Ku1 (by omega)) | (exact fun hf_ => (r1 (by omega)).cst) | (exact fun hf_ => ((r1 (by omega)).so so_16_15).cst) | (exact fun hf_ => ((r1 (by omega)).so so_16_14).cst) | (exact fun _ => ok1.i) | (exact fun hf_ => LI.z (fun h => absurd h (by decide))) | (exact fun hf_ => absurd hf_ (by omega)) | (exact fun hf_ => by omega) | (have zz_ := fz_z (by assumption); omega) | (split <;> omega) | done)), ?_⟩
  intro s6 Ws6 e6_0 e6_1 e6_2 e6_3 e6_4 e6_5 e6_6 e6_7 e6_8 e6_9 e6_10 e6_11 e6_12 e6_13 e6_14 e6_15 e6_16 e6_17 e6_18 e6_19 R6 q6
  have q6 := dig_blanks q6 (by (try simp only [Ks1]); omega)
  obtain ⟨q6_1, q6_2⟩ := q6
  (try simp only [Ks1, NBP, NBQ] at q6_1 q6_2 e6_0 e6_1 e6_2 e6_3 e6_4 e6_5 e6_6 e6_7 e6_8 e6_9 e6_10 e6_11 e6_12 e6_13 e6_14 e6_15 e6_16 e6_17 e6_18 e6_19 R6)
  have Ks6 : rR s6 7 = rR σ 7 := by (try simp only [rR_sF, rR_sA, rR_sT, rR_sL] at e6_0 e6_1 e6_2 e6_3 e6_4 e6_5 e6_6 e6_7 e6_8 e6_9 e6_10 e6_11 e6_12 e6_13 e6_14 e6_15 e6_16 e6_17 e6_18 e6_19 R6); omega
  have zr6 := fz_rng s6
  have A6 : Im (fz s6 = 0) (RG σ s6 (rR σ 7) 0) := fun hf => RG.trk hp_2 (A1 (by omega)) R6 (by omega)
  have r1u3 : Im (fz s6 = 0) _ := fun hf => NR.gk (r1 (by omega)) (GK.up (g := g1) (N := rF s1 (rR σ 7) 7) (N' := rF s6 (rR σ 7) 7) (c := 0) (by first | omega | (simp only [rF_sT, rF_sA]; omega)))
  have Ku4 : Im (fz s6 = 0) (GK g g1 (rF σ (rR σ 7) 7) (rF s6 (rR σ 7) 7) 0) := fun hf => GK.trans (Ku1 (by omega)) (GK.up (N := rF s1 (rR σ 7) 7) (N' := rF s6 (rR σ 7) 7) (c := 0) (by first | omega | (simp only [rF_sT, rF_sA]; omega))) (by omega)
  have Gu5 : Im (fz s6 = 0) (GS s6 (rR σ 7) g1) := fun hf => GS.mv hp_2 (Gu2 (by omega)) R6
  have rNMp_6 := e6_0 q1_2; clear e6_0
  have WNp_6 := e6_1 q1_3; clear e6_1
  have PNp_6 := e6_2 q1_4; clear e6_2
  have CCp_6 := e6_3 CCp_1; clear e6_3
  intro hr_; unfold rng at hr_
  refine ⟨fun c13 => ?_, fun c13 => ?_⟩
  · have z13 := fz_n c13
    exact (by (try simp only [post_X14_readBoth, Ks6]); (all_goals (repeat' (first | with_reducible intro _ | with_reducible apply And.intro | with_reducible refine Exists.intro g1 ?_ | with_reducible refine Im.and ?_ ?_))); all_goals (first | assumption | trivial | (unfold NBP; (try simp only [Ks6]); omega) | (unfold NBQ; (try simp only [Ks6]); omega) | omega | (exact fun hf_ => (A6 (by omega))) | (exact fun hf_ => Gu5 (by omega)) | (exact fun hf_ => Ku4 (by omega)) | (exact fun hf_ => (r1u3 (by omega)).cst) | (exact fun hf_ => ((r1u3 (by omega)).so so_16_15).cst) | (exact fun hf_ => ((r1u3 (by omega)).so so_16_14).cst) | (exact fun _ => ok1.i) | (exact fun hf_ => LI.z (fun h => absurd h (by decide))) | (exact fun hf_ => absurd hf_ (by omega)) | (exact fun hf_ => by omega) | (have zz_ := fz_z (by assumption); omega) | (split <;> omega) | done))
  · have z13 := fz_z c13
    refine ⟨(by (try simp only [pre_X14_isTwice, Ks6]); (all_goals (repeat' (first | with_reducible intro _ | with_reducible apply And.intro | with_reducible refine Exists.intro g1 ?_ | with_reducible refine Im.and ?_ ?_))); all_goals (first | assumption | trivial | (unfold NBP; (try simp only [Ks6]); omega) | (unfold NBQ; (try simp only [Ks6]); omega) | omega | (exact fun hf_ => (A6 (by omega))) | (exact fun hf_ => Gu5 (by omega)) | (exact fun hf_ => Ku4 (by omega)) | (exact fun hf_ => (r1u3 (by omega)).cst) | (exact fun hf_ => ((r1u3 (by omega)).so so_16_15).cst) | (exact fun hf_ => ((r1u3 (by omega)).so so_16_14).cst) | (exact fun _ => ok1.i) | (exact fun hf_ => LI.z (fun h => absurd h (by decide))) | (exact fun hf_ => absurd hf_ (by omega)) | (exact fun hf_ => by omega) | (have zz_ := fz_z (by assumption); omega) | (split <;> omega) | done)), ?_⟩
    intro v19 hv19 q19
    unfold rng at hv19
    unfold post_X14_isTwice at q19
    obtain ⟨q19_1, q19_2⟩ := q19
    (try simp only [Ks6, NBP, NBQ] at q19_1 q19_2)
    refine ⟨fun c22 => ?_, fun c22 => ?_⟩
    · refine ⟨(by (try simp only [pre_X14_node_t, Ks6]); (all_goals (repeat' (first | with_reducible intro _ | with_reducible apply And.intro | with_reducible refine Exists.intro g1 ?_ | with_reducible refine Im.and ?_ ?_))); all_goals (first | assumption | trivial | (unfold NBP; (try simp only [Ks6]); omega) | (unfold NBQ; (try simp only [Ks6]); omega) | omega | (exact fun hf_ => (A6 (by omega))) | (exact fun hf_ => Gu5 (by omega)) | (exact fun hf_ => Ku4 (by omega)) | (exact fun hf_ => (r1u3 (by omega)).cst) | (exact fun hf_ => ((r1u3 (by omega)).so so_16_15).cst) | (exact fun hf_ => ((r1u3 (by omega)).so so_16_14).cst) | (exact fun _ => ok1.i) | (exact fun hf_ => LI.z (fun h => absurd h (by decide))) | (exact fun hf_ => absurd hf_ (by omega)) | (exact fun hf_ => by omega) | (have zz_ := fz_z (by assumption); omega) | (split <;> omega) | done)), ?_⟩
      intro v33 s33 hv33 Ws33 e33_0 e33_1 e33_2 e33_3 e33_4 e33_5 e33_6 e33_7 e33_8 e33_9 e33_10 e33_11 e33_12 e33_13 e33_14 e33_15 e33_16 e33_17 e33_18 e33_19 q33
      unfold rng at hv33
      unfold post_X14_node_t at q33
      obtain ⟨q33_1, q33_2, q33_3, q33_4, q33_5, q33_6, q33_7, q33_8, q33_9⟩ := q33
      (try simp only [Ks6, NBP, NBQ] at q33_1 q33_2 q33_3 q33_4 q33_5 q33_6 q33_7 q33_8 q33_9 e33_0 e33_1 e33_2 e33_3 e33_4 e33_5 e33_6 e33_7 e33_8 e33_9 e33_10 e33_11 e33_12 e33_13 e33_14 e33_15 e33_16 e33_17 e33_18 e33_19)
      have Ks33 : rR s33 7 = rR σ 7 := by (try simp only [rR_sF, rR_sA, rR_sT, rR_sL] at e33_0 e33_1 e33_2 e33_3 e33_4 e33_5 e33_6 e33_7 e33_8 e33_9 e33_10 e33_11 e33_12 e33_13 e33_14 e33_15 e33_16 e33_17 e33_18 e33_19); omega
      have zr33 := fz_rng s33
      have A33 : Im (fz s33 = 0) (RG σ s33 (rR σ 7) 0) := fun hf => RG.trk hp_2 (A6 (by omega)) q33_3 (by omega)
      obtain ⟨g33, X33⟩ := EV_56 (P := fz s33 = 0) (rF σ 0 29) (rF s1 0 31) hp_2 (fun hf => Gu5 (by omega)) (fun hf => r1u3 (by omega)) (fun _ h => h) (fun hf => q33_3) q33_1 q33_2 q33_4 q33_5 q33_6 q33_9 (fun hf => by (try simp only [rF_sT, rF_sA]); (repeat' (with_reducible apply And.intro)) <;> first | trivial | omega)
      have Ku6 : Im (fz s33 = 0) (GK g g33 (rF σ (rR σ 7) 7) (rF s33 (rR σ 7) 7) 0) := fun hf => GK.kv (Ku4 (by omega)) (X33 hf).2.1 (by omega)
      have Gu7 : Im (fz s33 = 0) _ := fun hf => (X33 hf).1
      have O33 : Im (fz s33 = 0) _ := fun hf => (X33 hf).2.2.1
      have L33_1 : Im (fz s33 = 0) _ := fun hf => (X33 hf).2.2.2.1
      have rNMp_33 := e33_0 rNMp_6; clear e33_0
      have WNp_33 := e33_1 WNp_6; clear e33_1
      have PNp_33 := e33_2 PNp_6; clear e33_2
      have CCp_33 := e33_3 CCp_6; clear e33_3
      exact (by (try simp only [inv_X14_readBoth_39, Ks33]); (all_goals (repeat' (first | with_reducible intro _ | with_reducible apply And.intro | with_reducible refine Exists.intro g33 ?_ | with_reducible refine Im.and ?_ ?_))); all_goals (first | assumption | trivial | (unfold NBP; (try simp only [Ks33]); omega) | (unfold NBQ; (try simp only [Ks33]); omega) | omega | (exact fun hf_ => (A33 (by omega))) | (exact fun hf_ => Gu7 (by omega)) | (exact fun hf_ => Ku6 (by omega)) | (exact fun hf_ => (O33 (by omega)).cst) | (exact fun hf_ => L33_1 (by omega)) | (exact fun _ => ok1.i) | (exact fun hf_ => LI.z (fun h => absurd h (by decide))) | (exact fun hf_ => absurd hf_ (by omega)) | (exact fun hf_ => by omega) | (have zz_ := fz_z (by assumption); omega) | (split <;> omega) | done))
    · exact (by (try simp only [post_X14_readBoth, Ks6]); (all_goals (repeat' (first | with_reducible intro _ | with_reducible apply And.intro | with_reducible refine Exists.intro g1 ?_ | with_reducible refine Im.and ?_ ?_))); all_goals (first | assumption | trivial | (unfold NBP; (try simp only [Ks6]); omega) | (unfold NBQ; (try simp only [Ks6]); omega) | omega | (exact fun hf_ => (A6 (by omega))) | (exact fun hf_ => Gu5 (by omega)) | (exact fun hf_ => Ku4 (by omega)) | (exact fun hf_ => (r1u3 (by omega)).cst) | (exact fun hf_ => ((r1u3 (by omega)).so so_16_15).cst) | (exact fun hf_ => ((r1u3 (by omega)).so so_16_14).cst) | (exact fun _ => ok1.i) | (exact fun hf_ => LI.z (fun h => absurd h (by decide))) | (exact fun hf_ => absurd hf_ (by omega)) | (exact fun hf_ => by omega) | (have zz_ := fz_z (by assumption); omega) | (split <;> omega) | done))
set_option maxHeartbeats 4000000 in
theorem vX14_readBoth_39 (n : Nat) (σ : rS) (gg : Nat) (g : Nat → Int → Int) (hwf : rWF σ) (hp : pre_X14_readBoth σ gg g) (hr : rk_X14_readBoth σ gg g ≤ n + 1) : VC_X14_readBoth_39 n σ gg g (post_X14_readBoth σ gg g) := by
  unfold pre_X14_readBoth at hp
  obtain ⟨hp_1, hp_2, hp_3, hp_4, hp_5, hp_6, hp_7, hp_8⟩ := hp
  subst hp_1
  unfold rk_X14_readBoth at hr
  have hN := hp_4
  unfold NBP at hN
  have hC := hp_3
  unfold CCp at hC
  obtain ⟨hC1, hC⟩ := hC
  have zr0 := fz_rng σ
  have hr2 : fz σ = 0 → 16 * (21 - rF σ 0 31).toNat + 10 ≤ n + 1 := fun h => by rw [if_pos h] at hr; exact hr
  have hr3 : 10 ≤ n + 1 := by have := hr; split at this <;> omega
  clear hr
  unfold VC_X14_readBoth_39
  intro s39 y39_2 y39_3 Ws39 hy39_2 hy39_3 e39_0 e39_1 e39_2 e39_3 e39_4 e39_5 e39_6 e39_7 I39
  have Ks39 : rR s39 7 = rR σ 7 := by omega
  unfold inv_X14_readBoth_39 at I39
  obtain ⟨I39_1, I39_2, I39_3, I39_4, I39_5, I39_6, I39_7, I39_8, I39_9, I39_10, I39_11, I39_12, I39_13⟩ := I39
  (try simp only [Ks39, NBP, NBQ] at I39_1 I39_2 I39_3 I39_4 I39_5 I39_6 I39_7 I39_8 I39_9 I39_10 I39_11 I39_12 I39_13)
  have zr39 := fz_rng s39
  have CCp_39 := e39_0 hp_3; clear e39_0
  obtain ⟨g39, X39⟩ := I39_13
  have G39 : Im (fz s39 = 0) _ := fun hf => (X39 hf).1
  have KA39 : Im (fz s39 = 0) _ := fun hf => (X39 hf).2.1
  have O39 : Im (fz s39 = 0) _ := fun hf => (X39 hf).2.2.1
  have L39 : Im (fz s39 = 0) _ := fun hf => (X39 hf).2.2.2.1
  intro hr_; unfold rng at hr_
  refine ⟨fun c43 => ?_, fun c43 => ?_⟩
  · have z43 := fz_n c43
    obtain ⟨gu8, Xu9⟩ := EC_56 (P := fz s39 = 0) (rF s39 0 29) (fun hf => G39 (by omega)) (fun hf => O39 (by omega)) (fun hf => by omega)
    have Ou10 : Im (fz s39 = 0) _ := fun hf => (Xu9 hf).2.1
    have Ku11 : Im (fz s39 = 0) (GK g gu8 (rF σ (rR σ 7) 7) (rF s39 (rR σ 7) 7) 0) := fun hf => GK.kc (KA39 (by omega)) (Xu9 hf).2.2 (by omega)
    have Gu12 : Im (fz s39 = 0) _ := fun hf => (Xu9 hf).1
    exact (by (try simp only [post_X14_readBoth, Ks39]); (all_goals (repeat' (first | with_reducible intro _ | with_reducible apply And.intro | with_reducible refine Exists.intro gu8 ?_ | with_reducible refine Im.and ?_ ?_))); all_goals (first | assumption | trivial | (unfold NBP; (try simp only [Ks39]); omega) | (unfold NBQ; (try simp only [Ks39]); omega) | omega | (exact fun hf_ => (I39_12 (by omega))) | (exact fun hf_ => Gu12 (by omega)) | (exact fun hf_ => Ku11 (by omega)) | (exact fun hf_ => (Ou10 (by omega)).cst) | (exact fun hf_ => ((Ou10 (by omega)).so so_15_14).cst) | (exact fun _ => ok1.i) | (exact fun hf_ => LI.z (fun h => absurd h (by decide))) | (exact fun hf_ => absurd hf_ (by omega)) | (exact fun hf_ => by omega) | (have zz_ := fz_z (by assumption); omega) | (split <;> omega) | done))
  · have z43 := fz_z c43
    refine ⟨(by (try simp only [pre_X14_isTwice, Ks39]); (all_goals (repeat' (first | with_reducible intro _ | with_reducible apply And.intro | with_reducible refine Exists.intro g39 ?_ | with_reducible refine Im.and ?_ ?_))); all_goals (first | assumption | trivial | (unfold NBP; (try simp only [Ks39]); omega) | (unfold NBQ; (try simp only [Ks39]); omega) | omega | (exact fun hf_ => (I39_12 (by omega))) | (exact fun hf_ => G39 (by omega)) | (exact fun hf_ => KA39 (by omega)) | (exact fun hf_ => (O39 (by omega)).cst) | (exact fun hf_ => L39 (by omega)) | (exact fun _ => ok1.i) | (exact fun hf_ => LI.z (fun h => absurd h (by decide))) | (exact fun hf_ => absurd hf_ (by omega)) | (exact fun hf_ => by omega) | (have zz_ := fz_z (by assumption); omega) | (split <;> omega) | done)), ?_⟩
    intro v49 hv49 q49
    unfold rng at hv49
    unfold post_X14_isTwice at q49
    obtain ⟨q49_1, q49_2⟩ := q49
    (try simp only [Ks39, NBP, NBQ] at q49_1 q49_2)
    refine ⟨fun c52 => ?_, fun c52 => ?_⟩
    · obtain ⟨gu13, Xu14⟩ := EC_56 (P := fz s39 = 0) (rF s39 0 29) (fun hf => G39 (by omega)) (fun hf => O39 (by omega)) (fun hf => by omega)
      have Ou15 : Im (fz s39 = 0) _ := fun hf => (Xu14 hf).2.1
      have Ku16 : Im (fz s39 = 0) (GK g gu13 (rF σ (rR σ 7) 7) (rF s39 (rR σ 7) 7) 0) := fun hf => GK.kc (KA39 (by omega)) (Xu14 hf).2.2 (by omega)
      have Gu17 : Im (fz s39 = 0) _ := fun hf => (Xu14 hf).1
      exact (by (try simp only [post_X14_readBoth, Ks39]); (all_goals (repeat' (first | with_reducible intro _ | with_reducible apply And.intro | with_reducible refine Exists.intro gu13 ?_ | with_reducible refine Im.and ?_ ?_))); all_goals (first | assumption | trivial | (unfold NBP; (try simp only [Ks39]); omega) | (unfold NBQ; (try simp only [Ks39]); omega) | omega | (exact fun hf_ => (I39_12 (by omega))) | (exact fun hf_ => Gu17 (by omega)) | (exact fun hf_ => Ku16 (by omega)) | (exact fun hf_ => (Ou15 (by omega)).cst) | (exact fun hf_ => ((Ou15 (by omega)).so so_15_14).cst) | (exact fun _ => ok1.i) | (exact fun hf_ => LI.z (fun h => absurd h (by decide))) | (exact fun hf_ => absurd hf_ (by omega)) | (exact fun hf_ => by omega) | (have zz_ := fz_z (by assumption); omega) | (split <;> omega) | done))
    · intro hr_; unfold rng at hr_
      refine ⟨(by (try simp only [rng, Ks39]); (all_goals (repeat' (first | with_reducible intro _ | with_reducible apply And.intro | with_reducible refine Exists.intro g39 ?_ | with_reducible refine Im.and ?_ ?_))); all_goals (first | assumption | trivial | (unfold NBP; (try simp only [Ks39]); omega) | (unfold NBQ; (try simp only [Ks39]); omega) | omega | (exact fun hf_ => (I39_12 (by omega))) | (exact fun hf_ => G39 (by omega)) | (exact fun hf_ => KA39 (by omega)) | (exact fun hf_ => (O39 (by omega)).cst) | (exact fun hf_ => L39 (by omega)) | (exact fun _ => ok1.i) | (exact fun hf_ => LI.z (fun h => absurd h (by decide))) | (exact fun hf_ => absurd hf_ (by omega)) | (exact fun hf_ => by omega) | (have zz_ := fz_z (by assumption); omega) | (split <;> omega) | done)), ?_⟩
      refine ⟨g39, ?_⟩
      refine ⟨(by (try simp only [pre_X14_readNot, reduceIte, and_true, true_and, and_false, false_and, and_self, Nat.reduceEqDiff, fz_sF29, rF_sF, rA_sF, rR_sF, tr_sF, rNMp_sF, PNp_sF, GS_F29, OP_F29, NR_F29, LI_F29, RG_l29, RG_r29, TPRp_sF29, WNp_sF29, VMp_sF29, KYp_sF29, PPp_sF29, WFp_sF29, CCp_sF29, rk_n0 hp_2, Ks39]); (all_goals (repeat' (first | with_reducible intro _ | with_reducible apply And.intro | with_reducible refine Exists.intro g39 ?_ | with_reducible refine Im.and ?_ ?_))); all_goals (first | assumption | trivial | (unfold NBP; (try simp only [reduceIte, and_true, true_and, and_false, false_and, and_self, Nat.reduceEqDiff, fz_sF29, rF_sF, rA_sF, rR_sF, tr_sF, rNMp_sF, PNp_sF, GS_F29, OP_F29, NR_F29, LI_F29, RG_l29, RG_r29, TPRp_sF29, WNp_sF29, VMp_sF29, KYp_sF29, PPp_sF29, WFp_sF29, CCp_sF29, rk_n0 hp_2, Ks39]); omega) | (unfold NBQ; (try simp only [reduceIte, and_true, true_and, and_false, false_and, and_self, Nat.reduceEqDiff, fz_sF29, rF_sF, rA_sF, rR_sF, tr_sF, rNMp_sF, PNp_sF, GS_F29, OP_F29, NR_F29, LI_F29, RG_l29, RG_r29, TPRp_sF29, WNp_sF29, VMp_sF29, KYp_sF29, PPp_sF29, WFp_sF29, CCp_sF29, rk_n0 hp_2, Ks39]); omega) | omega | (exact fun hf_ => (I39_12 (by omega))) | (exact fun hf_ => G39 (by omega)) | (exact fun hf_ => KA39 (by omega)) | (exact fun hf_ => (O39 (by omega)).cst) | (exact fun hf_ => L39 (by omega)) | (exact fun _ => ok1.i) | (exact fun hf_ => LI.z (fun h => absurd h (by decide))) | (exact fun hf_ => absurd hf_ (by omega)) | (exact fun hf_ => by omega) | (have zz_ := fz_z (by assumption); omega) | (split <;> omega) | done)), ?_⟩
      refine ⟨(by (try simp only [rk_X14_readNot, reduceIte, and_true, true_and, and_false, false_and, and_self, Nat.reduceEqDiff, fz_sF29, rF_sF, rA_sF, rR_sF, tr_sF, rNMp_sF, PNp_sF, GS_F29, OP_F29, NR_F29, LI_F29, RG_l29, RG_r29, TPRp_sF29, WNp_sF29, VMp_sF29, KYp_sF29, PPp_sF29, WFp_sF29, CCp_sF29, rk_n0 hp_2, Ks39]); (all_goals (repeat' (first | with_reducible intro _ | with_reducible apply And.intro | with_reducible refine Exists.intro g39 ?_ | with_reducible refine Im.and ?_ ?_))); all_goals (first | assumption | trivial | (unfold NBP; (try simp only [reduceIte, and_true, true_and, and_false, false_and, and_self, Nat.reduceEqDiff, fz_sF29, rF_sF, rA_sF, rR_sF, tr_sF, rNMp_sF, PNp_sF, GS_F29, OP_F29, NR_F29, LI_F29, RG_l29, RG_r29, TPRp_sF29, WNp_sF29, VMp_sF29, KYp_sF29, PPp_sF29, WFp_sF29, CCp_sF29, rk_n0 hp_2, Ks39]); omega) | (unfold NBQ; (try simp only [reduceIte, and_true, true_and, and_false, false_and, and_self, Nat.reduceEqDiff, fz_sF29, rF_sF, rA_sF, rR_sF, tr_sF, rNMp_sF, PNp_sF, GS_F29, OP_F29, NR_F29, LI_F29, RG_l29, RG_r29, TPRp_sF29, WNp_sF29, VMp_sF29, KYp_sF29, PPp_sF29, WFp_sF29, CCp_sF29, rk_n0 hp_2, Ks39]); omega) | omega | (exact fun hf_ => (I39_12 (by omega))) | (exact fun hf_ => G39 (by omega)) | (exact fun hf_ => KA39 (by omega)) | (exact fun hf_ => (O39 (by omega)).cst) | (exact fun hf_ => L39 (by omega)) | (exact fun _ => ok1.i) | (exact fun hf_ => LI.z (fun h => absurd h (by decide))) | (exact fun hf_ => absurd hf_ (by omega)) | (exact fun hf_ => by omega) | (have zz_ := fz_z (by assumption); omega) | (split <;> omega) | done)), ?_⟩
      intro v66 s66 hv66 Ws66 e66_0 e66_1 e66_2 e66_3 e66_4 e66_5 e66_6 e66_7 q66
      unfold rng at hv66
      unfold post_X14_readNot at q66
      obtain ⟨q66_1, q66_2, q66_3, q66_4, q66_5, q66_6, q66_7, q66_8, q66_9⟩ := q66
      (try simp only [reduceIte, and_true, true_and, and_false, false_and, and_self, Nat.reduceEqDiff, fz_sF29, rF_sF, rA_sF, rR_sF, tr_sF, rNMp_sF, PNp_sF, GS_F29, OP_F29, NR_F29, LI_F29, RG_l29, RG_r29, TPRp_sF29, WNp_sF29, VMp_sF29, KYp_sF29, PPp_sF29, WFp_sF29, CCp_sF29, rk_n0 hp_2, Ks39, NBP, NBQ] at q66_1 q66_2 q66_3 q66_4 q66_5 q66_6 q66_7 q66_8 q66_9 e66_0 e66_1 e66_2 e66_3 e66_4 e66_5 e66_6 e66_7)
      have Ks66 : rR s66 7 = rR σ 7 := by (try simp only [rR_sF, rR_sA, rR_sT, rR_sL] at e66_0 e66_1 e66_2 e66_3 e66_4 e66_5 e66_6 e66_7); omega
      have zr66 := fz_rng s66
      have A66 : Im (fz s66 = 0) (RG σ s66 (rR σ 7) 0) := fun hf => RG.trk hp_2 (I39_12 (by omega)) (q66_8 (by omega)) (by omega)
      obtain ⟨g66, X66⟩ := q66_9
      have Ou18 : Im (fz s66 = 0) _ := fun hf => OP.gk0 (O39 (by omega)) ((X66 hf).2.1)
      have Lu19 : Im (fz s66 = 0) _ := fun hf => LI.gk0 hp_2 (L39 (by omega)) (O39 (by omega)) (q66_8 (by omega)) ((X66 hf).2.1)
      have Ku20 : Im (fz s66 = 0) (GK g g66 (rF σ (rR σ 7) 7) (rF s66 (rR σ 7) 7) 0) := fun hf => GK.trans (KA39 (by omega)) ((X66 hf).2.1) (by omega)
      have Gu21 : Im (fz s66 = 0) (GS s66 (rR σ 7) g66) := fun hf => (X66 hf).1
      have r66 : Im (fz s66 = 0) _ := fun hf => (X66 hf).2.2.1
      have CCp_66 := e66_0 CCp_39; clear e66_0
      intro hr_; unfold rng at hr_
      refine ⟨fun c75 => ?_, fun c75 => ?_⟩
      · have z75 := fz_z c75
        refine ⟨(by (try simp only [Ks66]); (all_goals (repeat' (first | with_reducible intro _ | with_reducible apply And.intro | with_reducible refine Exists.intro g66 ?_ | with_reducible refine Im.and ?_ ?_))); all_goals (first | assumption | trivial | (unfold NBP; (try simp only [Ks66]); omega) | (unfold NBQ; (try simp only [Ks66]); omega) | omega | (exact fun hf_ => (A66 (by omega))) | (exact fun hf_ => Gu21 (by omega)) | (exact fun hf_ => Ku20 (by omega)) | (exact fun hf_ => (Ou18 (by omega)).cst) | (exact fun hf_ => Lu19 (by omega)) | (exact fun hf_ => (r66 (by omega)).cst) | (exact fun hf_ => ((r66 (by omega)).so so_16_15).cst) | (exact fun hf_ => ((r66 (by omega)).so so_16_14).cst) | (exact fun _ => ok1.i) | (exact fun hf_ => LI.z (fun h => absurd h (by decide))) | (exact fun hf_ => absurd hf_ (by omega)) | (exact fun hf_ => by omega) | (have zz_ := fz_z (by assumption); omega) | (split <;> omega) | done)), ?_⟩
        have A90 : Im (fz s66 = 0) (RG σ (sT s66 (rR σ 7) 5 y39_3 v66) (rR σ 7) 0) := fun hf => RG.tst (f := 5) (i := y39_3) (x := v66) hp_2 (A66 (by omega)) (by decide) (by omega)
        obtain ⟨gs90, Xs90⟩ := EA_1_56 (P := fz s66 = 0) hp_2 (fun hf => Gu21 (by omega)) (fun hf => Ou18 (by omega)) (fun hf => Lu19 (by omega)) (fun hf => r66 (by omega)) (fun _ h => h) (fun hf => by omega)
        have Ku22 : Im (fz s66 = 0) (GK g gs90 (rF σ (rR σ 7) 7) (rF s66 (rR σ 7) 7) 0) := fun hf => GK.ks (Ku20 (by omega)) (Xs90 hf).2.2.2.1 (by omega) (by omega)
        have Gu23 : Im (fz s66 = 0) _ := fun hf => (Xs90 hf).1
        have Ou24 : Im (fz s66 = 0) _ := fun hf => (Xs90 hf).2.1
        have Lu25 : Im (fz s66 = 0) _ := fun hf => (Xs90 hf).2.2.1
        refine ⟨(by (try simp only [pre_X14_blanks, reduceIte, and_true, true_and, and_false, false_and, and_self, Nat.reduceEqDiff, fz_sA, rF_sA, rA_sA, rR_sA, rF_sT, rR_sT, sT_sF, fz_sT, rA_sT26 hp_2, rA_sT27 hp_2, rA_sT34 hp_2, rA_sT35 hp_2, rA_sT36 hp_2, rA_sT37 hp_2, rA_sT40 hp_2, TPRp_sT hp_2, WNp_sT hp_2, VMp_sT hp_2, KYp_sT hp_2, PPp_sT hp_2, WFp_sT hp_2, CCp_sT hp_2, rNMp_sT5, PNp_sT5, rk_n0 hp_2, Ks66]); (all_goals (repeat' (first | with_reducible intro _ | with_reducible apply And.intro | with_reducible refine Exists.intro gs90 ?_ | with_reducible refine Im.and ?_ ?_))); all_goals (first | assumption | trivial | (unfold NBP; (try simp only [reduceIte, and_true, true_and, and_false, false_and, and_self, Nat.reduceEqDiff, fz_sA, rF_sA, rA_sA, rR_sA, rF_sT, rR_sT, sT_sF, fz_sT, rA_sT26 hp_2, rA_sT27 hp_2, rA_sT34 hp_2, rA_sT35 hp_2, rA_sT36 hp_2, rA_sT37 hp_2, rA_sT40 hp_2, TPRp_sT hp_2, WNp_sT hp_2, VMp_sT hp_2, KYp_sT hp_2, PPp_sT hp_2, WFp_sT hp_2, CCp_sT hp_2, rNMp_sT5, PNp_sT5, rk_n0 hp_2, Ks66]); omega) | (unfold NBQ; (try simp only [reduceIte, and_true, true_and, and_false, false_and, and_self, Nat.reduceEqDiff, fz_sA, rF_sA, rA_sA, rR_sA, rF_sT, rR_sT, sT_sF, fz_sT, rA_sT26 hp_2, rA_sT27 hp_2, rA_sT34 hp_2, rA_sT35 hp_2, rA_sT36 hp_2, rA_sT37 hp_2, rA_sT40 hp_2, TPRp_sT hp_2, WNp_sT hp_2, VMp_sT hp_2, KYp_sT hp_2, PPp_sT hp_2, WFp_sT hp_2, CCp_sT hp_2, rNMp_sT5, PNp_sT5, rk_n0 hp_2, Ks66]); omega) | omega | (exact fun hf_ => (A90 (by omega))) | (exact fun hf_ => Gu23 (by omega)) | (exact fun hf_ => Ku22 (by omega)) | (exact fun hf_ => (Ou24 (by omega)).cst) | (exact fun hf_ => Lu25 (by omega)) | (exact fun _ => ok1.i) | (exact fun hf_ => LI.z (fun h => absurd h (by decide))) | (exact fun hf_ => absurd hf_ (by omega)) | (exact fun hf_ => by omega) | (have zz_ := fz_z (by assumption); omega) | (split <;> omega) | done)), ?_⟩
        intro s95 Ws95 e95_0 e95_1 e95_2 e95_3 e95_4 e95_5 e95_6 e95_7 e95_8 e95_9 e95_10 e95_11 e95_12 e95_13 e95_14 e95_15 e95_16 e95_17 e95_18 e95_19 R95 q95
        have q95 := dig_blanks q95 (by (try simp only [reduceIte, and_true, true_and, and_false, false_and, and_self, Nat.reduceEqDiff, fz_sA, rF_sA, rA_sA, rR_sA, rF_sT, rR_sT, sT_sF, fz_sT, rA_sT26 hp_2, rA_sT27 hp_2, rA_sT34 hp_2, rA_sT35 hp_2, rA_sT36 hp_2, rA_sT37 hp_2, rA_sT40 hp_2, TPRp_sT hp_2, WNp_sT hp_2, VMp_sT hp_2, KYp_sT hp_2, PPp_sT hp_2, WFp_sT hp_2, CCp_sT hp_2, rNMp_sT5, PNp_sT5, rk_n0 hp_2, Ks66]); omega)
        obtain ⟨q95_1, q95_2⟩ := q95
        (try simp only [reduceIte, and_true, true_and, and_false, false_and, and_self, Nat.reduceEqDiff, fz_sA, rF_sA, rA_sA, rR_sA, rF_sT, rR_sT, sT_sF, fz_sT, rA_sT26 hp_2, rA_sT27 hp_2, rA_sT34 hp_2, rA_sT35 hp_2, rA_sT36 hp_2, rA_sT37 hp_2, rA_sT40 hp_2, TPRp_sT hp_2, WNp_sT hp_2, VMp_sT hp_2, KYp_sT hp_2, PPp_sT hp_2, WFp_sT hp_2, CCp_sT hp_2, rNMp_sT5, PNp_sT5, rk_n0 hp_2, Ks66, NBP, NBQ] at q95_1 q95_2 e95_0 e95_1 e95_2 e95_3 e95_4 e95_5 e95_6 e95_7 e95_8 e95_9 e95_10 e95_11 e95_12 e95_13 e95_14 e95_15 e95_16 e95_17 e95_18 e95_19 R95)
        have Ks95 : rR s95 7 = rR σ 7 := by (try simp only [rR_sF, rR_sA, rR_sT, rR_sL] at e95_0 e95_1 e95_2 e95_3 e95_4 e95_5 e95_6 e95_7 e95_8 e95_9 e95_10 e95_11 e95_12 e95_13 e95_14 e95_15 e95_16 e95_17 e95_18 e95_19 R95); omega
        have zr95 := fz_rng s95
        have A95 : Im (fz s95 = 0) (RG σ s95 (rR σ 7) 0) := fun hf => RG.trk hp_2 (A90 (by omega)) R95 (by omega)
        have Ou26 : Im (fz s95 = 0) _ := fun hf => OP.gk0 (Ou24 (by omega)) (GK.up (g := gs90) (N := rF (sT s66 (rR σ 7) 5 y39_3 v66) (rR σ 7) 7) (N' := rF s95 (rR σ 7) 7) (c := 0) (by first | omega | (simp only [rF_sT, rF_sA]; omega)))
        have Lu27 : Im (fz s95 = 0) _ := fun hf => LI.gk0 hp_2 (Lu25 (by omega)) (Ou24 (by omega)) R95 (GK.up (g := gs90) (N := rF (sT s66 (rR σ 7) 5 y39_3 v66) (rR σ 7) 7) (N' := rF s95 (rR σ 7) 7) (c := 0) (by first | omega | (simp only [rF_sT, rF_sA]; omega)))
        have Ku28 : Im (fz s95 = 0) (GK g gs90 (rF σ (rR σ 7) 7) (rF s95 (rR σ 7) 7) 0) := fun hf => GK.trans (Ku22 (by omega)) (GK.up (N := rF (sT s66 (rR σ 7) 5 y39_3 v66) (rR σ 7) 7) (N' := rF s95 (rR σ 7) 7) (c := 0) (by first | omega | (simp only [rF_sT, rF_sA]; omega))) (by omega)
        have Gu29 : Im (fz s95 = 0) (GS s95 (rR σ 7) gs90) := fun hf => GS.mv hp_2 (Gu23 (by omega)) R95
        have rNMp_95 := e95_0 q66_2; clear e95_0
        have WNp_95 := e95_1 q66_3; clear e95_1
        have PNp_95 := e95_2 q66_4; clear e95_2
        have CCp_95 := e95_3 CCp_66; clear e95_3
        exact (by (try simp only [inv_X14_readBoth_39, mu_X14_readBoth_39, mu_X14_readBoth_39, Ks95]); (all_goals (repeat' (first | with_reducible intro _ | with_reducible apply And.intro | with_reducible refine Exists.intro gs90 ?_ | with_reducible refine Im.and ?_ ?_))); all_goals (first | assumption | trivial | (unfold NBP; (try simp only [Ks95]); omega) | (unfold NBQ; (try simp only [Ks95]); omega) | omega | (exact fun hf_ => (A95 (by omega))) | (exact fun hf_ => Gu29 (by omega)) | (exact fun hf_ => Ku28 (by omega)) | (exact fun hf_ => (Ou26 (by omega)).cst) | (exact fun hf_ => Lu27 (by omega)) | (exact fun _ => ok1.i) | (exact fun hf_ => LI.z (fun h => absurd h (by decide))) | (exact fun hf_ => absurd hf_ (by omega)) | (exact fun hf_ => by omega) | (have zz_ := fz_z (by assumption); omega) | (split <;> omega) | done))
      · have z75 := fz_n c75
        exact (by (try simp only [post_X14_readBoth, Ks66]); (all_goals (repeat' (first | with_reducible intro _ | with_reducible apply And.intro | with_reducible refine Exists.intro g66 ?_ | with_reducible refine Im.and ?_ ?_))); all_goals (first | assumption | trivial | (unfold NBP; (try simp only [Ks66]); omega) | (unfold NBQ; (try simp only [Ks66]); omega) | omega | (exact fun hf_ => (A66 (by omega))) | (exact fun hf_ => Gu21 (by omega)) | (exact fun hf_ => Ku20 (by omega)) | (exact fun hf_ => (Ou18 (by omega)).cst) | (exact fun hf_ => Lu19 (by omega)) | (exact fun hf_ => (r66 (by omega)).cst) | (exact fun hf_ => ((r66 (by omega)).so so_16_15).cst) | (exact fun hf_ => ((r66 (by omega)).so so_16_14).cst) | (exact fun _ => ok1.i) | (exact fun hf_ => LI.z (fun h => absurd h (by decide))) | (exact fun hf_ => absurd hf_ (by omega)) | (exact fun hf_ => by omega) | (have zz_ := fz_z (by assumption); omega) | (split <;> omega) | done))
set_option maxHeartbeats 4000000 in
theorem vX14_readBoth_39m (n : Nat) (σ : rS) (gg : Nat) (g : Nat → Int → Int) (hwf : rWF σ) (hp : pre_X14_readBoth σ gg g) (hr : rk_X14_readBoth σ gg g ≤ n + 1) : VC_X14_readBoth_39m n σ gg g := by
  unfold pre_X14_readBoth at hp
  obtain ⟨hp_1, hp_2, hp_3, hp_4, hp_5, hp_6, hp_7, hp_8⟩ := hp
  subst hp_1
  unfold rk_X14_readBoth at hr
  have hN := hp_4
  unfold NBP at hN
  have hC := hp_3
  unfold CCp at hC
  obtain ⟨hC1, hC⟩ := hC
  have zr0 := fz_rng σ
  have hr2 : fz σ = 0 → 16 * (21 - rF σ 0 31).toNat + 10 ≤ n + 1 := fun h => by rw [if_pos h] at hr; exact hr
  have hr3 : 10 ≤ n + 1 := by have := hr; split at this <;> omega
  clear hr
  unfold VC_X14_readBoth_39m
  (try simp only [inv_X14_readBoth_39, mu_X14_readBoth_39]); (all_goals (repeat' (first | with_reducible intro _ | with_reducible apply And.intro))); all_goals (first | assumption | omega | grind (splits := 20))
set_option maxHeartbeats 4000000 in
theorem vX14_readCond (n : Nat) (σ : rS) (gg : Nat) (g : Nat → Int → Int) (hwf : rWF σ) (hp : pre_X14_readCond σ gg g) (hr : rk_X14_readCond σ gg g ≤ n + 1) : VC_X14_readCond n σ gg g (post_X14_readCond σ gg g) := by
  unfold pre_X14_readCond at hp
  obtain ⟨hp_1, hp_2, hp_3, hp_4, hp_5, hp_6, hp_7, hp_8⟩ := hp
  subst hp_1
  unfold rk_X14_readCond at hr
  have hN := hp_4
  unfold NBP at hN
  have hC := hp_3
  unfold CCp at hC
  obtain ⟨hC1, hC⟩ := hC
  have zr0 := fz_rng σ
  have hr2 : fz σ = 0 → 16 * (21 - rF σ 0 31).toNat + 11 ≤ n + 1 := fun h => by rw [if_pos h] at hr; exact hr
  have hr3 : 11 ≤ n + 1 := by have := hr; split at this <;> omega
  clear hr
  unfold VC_X14_readCond
  refine ⟨(by (all_goals (repeat' (first | with_reducible intro _ | with_reducible apply And.intro))); all_goals (first | assumption | trivial | (unfold NBP; omega) | (unfold NBQ; omega) | omega | (have zz_ := fz_z (by assumption); omega) | (split <;> omega) | done)), ?_⟩
  refine ⟨g, ?_⟩
  refine ⟨(by (try simp only [pre_X14_readBoth]); (all_goals (repeat' (first | with_reducible intro _ | with_reducible apply And.intro | with_reducible refine Exists.intro g ?_ | with_reducible refine Im.and ?_ ?_))); all_goals (first | assumption | trivial | (unfold NBP; omega) | (unfold NBQ; omega) | omega | (exact fun hf_ => ((fun _ => RG.rf) (by omega))) | (exact fun hf_ => hp_8 (by omega)) | (exact fun hf_ => (fun _ => GK.rf) (by omega)) | (exact fun _ => ok1.i) | (exact fun hf_ => LI.z (fun h => absurd h (by decide))) | (exact fun hf_ => absurd hf_ (by omega)) | (exact fun hf_ => by omega) | (have zz_ := fz_z (by assumption); omega) | (split <;> omega) | done)), ?_⟩
  refine ⟨(by (try simp only [rk_X14_readBoth]); (all_goals (repeat' (first | with_reducible intro _ | with_reducible apply And.intro | with_reducible refine Exists.intro g ?_ | with_reducible refine Im.and ?_ ?_))); all_goals (first | assumption | trivial | (unfold NBP; omega) | (unfold NBQ; omega) | omega | (exact fun hf_ => ((fun _ => RG.rf) (by omega))) | (exact fun hf_ => hp_8 (by omega)) | (exact fun hf_ => (fun _ => GK.rf) (by omega)) | (exact fun _ => ok1.i) | (exact fun hf_ => LI.z (fun h => absurd h (by decide))) | (exact fun hf_ => absurd hf_ (by omega)) | (exact fun hf_ => by omega) | (have zz_ := fz_z (by assumption); omega) | (split <;> omega) | done)), ?_⟩
  intro v1 s1 hv1 Ws1 e1_0 e1_1 e1_2 e1_3 e1_4 e1_5 e1_6 e1_7 q1
  unfold rng at hv1
  unfold post_X14_readBoth at q1
  obtain ⟨q1_1, q1_2, q1_3, q1_4, q1_5, q1_6, q1_7, q1_8, q1_9⟩ := q1
  (try simp only [NBP, NBQ] at q1_1 q1_2 q1_3 q1_4 q1_5 q1_6 q1_7 q1_8 q1_9 e1_0 e1_1 e1_2 e1_3 e1_4 e1_5 e1_6 e1_7)
  have Ks1 : rR s1 7 = rR σ 7 := by (try simp only [rR_sF, rR_sA, rR_sT, rR_sL] at e1_0 e1_1 e1_2 e1_3 e1_4 e1_5 e1_6 e1_7); omega
  have zr1 := fz_rng s1
  have A1 : Im (fz s1 = 0) (RG σ s1 (rR σ 7) 0) := fun hf => RG.trk hp_2 ((fun _ => RG.rf) (by omega)) (q1_8 (by omega)) (by omega)
  obtain ⟨g1, X1⟩ := q1_9
  have Ku1 : Im (fz s1 = 0) (GK g g1 (rF σ (rR σ 7) 7) (rF s1 (rR σ 7) 7) 0) := fun hf => GK.trans ((fun _ => GK.rf) (by omega)) ((X1 hf).2.1) (by omega)
  have Gu2 : Im (fz s1 = 0) (GS s1 (rR σ 7) g1) := fun hf => (X1 hf).1
  have r1 : Im (fz s1 = 0) _ := fun hf => (X1 hf).2.2.1
  have CCp_1 := e1_0 hp_3; clear e1_0
  refine ⟨(by (try simp only [pre_X14_blanks, Ks1]); (all_goals (repeat' (first | with_reducible intro _ | with_reducible apply And.intro | with_reducible refine Exists.intro g1 ?_ | with_reducible refine Im.and ?_ ?_))); all_goals (first | assumption | trivial | (unfold NBP; (try simp only [Ks1]); omega) | (unfold NBQ; (try simp only [Ks1]); omega) | omega | (exact fun hf_ => (A1 (by omega))) | (exact fun hf_ => Gu2 (by omega)) | (exact fun hf_ => Ku1 (by omega)) | (exact fun hf_ => (r1 (by omega)).cst) | (exact fun hf_ => ((r1 (by omega)).so so_15_14).cst) | (exact fun _ => ok1.i) | (exact fun hf_ => LI.z (fun h => absurd h (by decide))) | (exact fun hf_ => absurd hf_ (by omega)) | (exact fun hf_ => by omega) | (have zz_ := fz_z (by assumption); omega) | (split <;> omega) | done)), ?_⟩
  intro s6 Ws6 e6_0 e6_1 e6_2 e6_3 e6_4 e6_5 e6_6 e6_7 e6_8 e6_9 e6_10 e6_11 e6_12 e6_13 e6_14 e6_15 e6_16 e6_17 e6_18 e6_19 R6 q6
  have q6 := dig_blanks q6 (by (try simp only [Ks1]); omega)
  obtain ⟨q6_1, q6_2⟩ := q6
  (try simp only [Ks1, NBP, NBQ] at q6_1 q6_2 e6_0 e6_1 e6_2 e6_3 e6_4 e6_5 e6_6 e6_7 e6_8 e6_9 e6_10 e6_11 e6_12 e6_13 e6_14 e6_15 e6_16 e6_17 e6_18 e6_19 R6)
  have Ks6 : rR s6 7 = rR σ 7 := by (try simp only [rR_sF, rR_sA, rR_sT, rR_sL] at e6_0 e6_1 e6_2 e6_3 e6_4 e6_5 e6_6 e6_7 e6_8 e6_9 e6_10 e6_11 e6_12 e6_13 e6_14 e6_15 e6_16 e6_17 e6_18 e6_19 R6); omega
  have zr6 := fz_rng s6
  have A6 : Im (fz s6 = 0) (RG σ s6 (rR σ 7) 0) := fun hf => RG.trk hp_2 (A1 (by omega)) R6 (by omega)
  have r1u3 : Im (fz s6 = 0) _ := fun hf => NR.gk (r1 (by omega)) (GK.up (g := g1) (N := rF s1 (rR σ 7) 7) (N' := rF s6 (rR σ 7) 7) (c := 0) (by first | omega | (simp only [rF_sT, rF_sA]; omega)))
  have Ku4 : Im (fz s6 = 0) (GK g g1 (rF σ (rR σ 7) 7) (rF s6 (rR σ 7) 7) 0) := fun hf => GK.trans (Ku1 (by omega)) (GK.up (N := rF s1 (rR σ 7) 7) (N' := rF s6 (rR σ 7) 7) (c := 0) (by first | omega | (simp only [rF_sT, rF_sA]; omega))) (by omega)
  have Gu5 : Im (fz s6 = 0) (GS s6 (rR σ 7) g1) := fun hf => GS.mv hp_2 (Gu2 (by omega)) R6
  have rNMp_6 := e6_0 q1_2; clear e6_0
  have WNp_6 := e6_1 q1_3; clear e6_1
  have PNp_6 := e6_2 q1_4; clear e6_2
  have CCp_6 := e6_3 CCp_1; clear e6_3
  intro hr_; unfold rng at hr_
  refine ⟨fun c13 => ?_, fun c13 => ?_⟩
  · have z13 := fz_n c13
    exact (by (try simp only [post_X14_readCond, Ks6]); (all_goals (repeat' (first | with_reducible intro _ | with_reducible apply And.intro | with_reducible refine Exists.intro g1 ?_ | with_reducible refine Im.and ?_ ?_))); all_goals (first | assumption | trivial | (unfold NBP; (try simp only [Ks6]); omega) | (unfold NBQ; (try simp only [Ks6]); omega) | omega | (exact fun hf_ => (A6 (by omega))) | (exact fun hf_ => Gu5 (by omega)) | (exact fun hf_ => Ku4 (by omega)) | (exact fun hf_ => (r1u3 (by omega)).cst) | (exact fun hf_ => ((r1u3 (by omega)).so so_15_14).cst) | (exact fun _ => ok1.i) | (exact fun hf_ => LI.z (fun h => absurd h (by decide))) | (exact fun hf_ => absurd hf_ (by omega)) | (exact fun hf_ => by omega) | (have zz_ := fz_z (by assumption); omega) | (split <;> omega) | done))
  · have z13 := fz_z c13
    refine ⟨(by (try simp only [pre_X14_isTwice, Ks6]); (all_goals (repeat' (first | with_reducible intro _ | with_reducible apply And.intro | with_reducible refine Exists.intro g1 ?_ | with_reducible refine Im.and ?_ ?_))); all_goals (first | assumption | trivial | (unfold NBP; (try simp only [Ks6]); omega) | (unfold NBQ; (try simp only [Ks6]); omega) | omega | (exact fun hf_ => (A6 (by omega))) | (exact fun hf_ => Gu5 (by omega)) | (exact fun hf_ => Ku4 (by omega)) | (exact fun hf_ => (r1u3 (by omega)).cst) | (exact fun hf_ => ((r1u3 (by omega)).so so_15_14).cst) | (exact fun _ => ok1.i) | (exact fun hf_ => LI.z (fun h => absurd h (by decide))) | (exact fun hf_ => absurd hf_ (by omega)) | (exact fun hf_ => by omega) | (have zz_ := fz_z (by assumption); omega) | (split <;> omega) | done)), ?_⟩
    intro v19 hv19 q19
    unfold rng at hv19
    unfold post_X14_isTwice at q19
    obtain ⟨q19_1, q19_2⟩ := q19
    (try simp only [Ks6, NBP, NBQ] at q19_1 q19_2)
    refine ⟨fun c22 => ?_, fun c22 => ?_⟩
    · refine ⟨(by (try simp only [pre_X14_node_t, Ks6]); (all_goals (repeat' (first | with_reducible intro _ | with_reducible apply And.intro | with_reducible refine Exists.intro g1 ?_ | with_reducible refine Im.and ?_ ?_))); all_goals (first | assumption | trivial | (unfold NBP; (try simp only [Ks6]); omega) | (unfold NBQ; (try simp only [Ks6]); omega) | omega | (exact fun hf_ => (A6 (by omega))) | (exact fun hf_ => Gu5 (by omega)) | (exact fun hf_ => Ku4 (by omega)) | (exact fun hf_ => (r1u3 (by omega)).cst) | (exact fun hf_ => ((r1u3 (by omega)).so so_15_14).cst) | (exact fun _ => ok1.i) | (exact fun hf_ => LI.z (fun h => absurd h (by decide))) | (exact fun hf_ => absurd hf_ (by omega)) | (exact fun hf_ => by omega) | (have zz_ := fz_z (by assumption); omega) | (split <;> omega) | done)), ?_⟩
      intro v33 s33 hv33 Ws33 e33_0 e33_1 e33_2 e33_3 e33_4 e33_5 e33_6 e33_7 e33_8 e33_9 e33_10 e33_11 e33_12 e33_13 e33_14 e33_15 e33_16 e33_17 e33_18 e33_19 q33
      unfold rng at hv33
      unfold post_X14_node_t at q33
      obtain ⟨q33_1, q33_2, q33_3, q33_4, q33_5, q33_6, q33_7, q33_8, q33_9⟩ := q33
      (try simp only [Ks6, NBP, NBQ] at q33_1 q33_2 q33_3 q33_4 q33_5 q33_6 q33_7 q33_8 q33_9 e33_0 e33_1 e33_2 e33_3 e33_4 e33_5 e33_6 e33_7 e33_8 e33_9 e33_10 e33_11 e33_12 e33_13 e33_14 e33_15 e33_16 e33_17 e33_18 e33_19)
      have Ks33 : rR s33 7 = rR σ 7 := by (try simp only [rR_sF, rR_sA, rR_sT, rR_sL] at e33_0 e33_1 e33_2 e33_3 e33_4 e33_5 e33_6 e33_7 e33_8 e33_9 e33_10 e33_11 e33_12 e33_13 e33_14 e33_15 e33_16 e33_17 e33_18 e33_19); omega
      have zr33 := fz_rng s33
      have A33 : Im (fz s33 = 0) (RG σ s33 (rR σ 7) 0) := fun hf => RG.trk hp_2 (A6 (by omega)) q33_3 (by omega)
      obtain ⟨g33, X33⟩ := EV_55 (P := fz s33 = 0) (rF σ 0 29) (rF s1 0 31) hp_2 (fun hf => Gu5 (by omega)) (fun hf => r1u3 (by omega)) (fun _ h => h) (fun hf => q33_3) q33_1 q33_2 q33_4 q33_5 q33_6 q33_9 (fun hf => by (try simp only [rF_sT, rF_sA]); (repeat' (with_reducible apply And.intro)) <;> first | trivial | omega)
      have Ku6 : Im (fz s33 = 0) (GK g g33 (rF σ (rR σ 7) 7) (rF s33 (rR σ 7) 7) 0) := fun hf => GK.kv (Ku4 (by omega)) (X33 hf).2.1 (by omega)
      have Gu7 : Im (fz s33 = 0) _ := fun hf => (X33 hf).1
      have O33 : Im (fz s33 = 0) _ := fun hf => (X33 hf).2.2.1
      have L33_1 : Im (fz s33 = 0) _ := fun hf => (X33 hf).2.2.2.1
      have rNMp_33 := e33_0 rNMp_6; clear e33_0
      have WNp_33 := e33_1 WNp_6; clear e33_1
      have PNp_33 := e33_2 PNp_6; clear e33_2
      have CCp_33 := e33_3 CCp_6; clear e33_3
      exact (by (try simp only [inv_X14_readCond_39, Ks33]); (all_goals (repeat' (first | with_reducible intro _ | with_reducible apply And.intro | with_reducible refine Exists.intro g33 ?_ | with_reducible refine Im.and ?_ ?_))); all_goals (first | assumption | trivial | (unfold NBP; (try simp only [Ks33]); omega) | (unfold NBQ; (try simp only [Ks33]); omega) | omega | (exact fun hf_ => (A33 (by omega))) | (exact fun hf_ => Gu7 (by omega)) | (exact fun hf_ => Ku6 (by omega)) | (exact fun hf_ => (O33 (by omega)).cst) | (exact fun hf_ => L33_1 (by omega)) | (exact fun _ => ok1.i) | (exact fun hf_ => LI.z (fun h => absurd h (by decide))) | (exact fun hf_ => absurd hf_ (by omega)) | (exact fun hf_ => by omega) | (have zz_ := fz_z (by assumption); omega) | (split <;> omega) | done))
    · exact (by (try simp only [post_X14_readCond, Ks6]); (all_goals (repeat' (first | with_reducible intro _ | with_reducible apply And.intro | with_reducible refine Exists.intro g1 ?_ | with_reducible refine Im.and ?_ ?_))); all_goals (first | assumption | trivial | (unfold NBP; (try simp only [Ks6]); omega) | (unfold NBQ; (try simp only [Ks6]); omega) | omega | (exact fun hf_ => (A6 (by omega))) | (exact fun hf_ => Gu5 (by omega)) | (exact fun hf_ => Ku4 (by omega)) | (exact fun hf_ => (r1u3 (by omega)).cst) | (exact fun hf_ => ((r1u3 (by omega)).so so_15_14).cst) | (exact fun _ => ok1.i) | (exact fun hf_ => LI.z (fun h => absurd h (by decide))) | (exact fun hf_ => absurd hf_ (by omega)) | (exact fun hf_ => by omega) | (have zz_ := fz_z (by assumption); omega) | (split <;> omega) | done))
set_option maxHeartbeats 4000000 in
theorem vX14_readCond_39 (n : Nat) (σ : rS) (gg : Nat) (g : Nat → Int → Int) (hwf : rWF σ) (hp : pre_X14_readCond σ gg g) (hr : rk_X14_readCond σ gg g ≤ n + 1) : VC_X14_readCond_39 n σ gg g (post_X14_readCond σ gg g) := by
  unfold pre_X14_readCond at hp
  obtain ⟨hp_1, hp_2, hp_3, hp_4, hp_5, hp_6, hp_7, hp_8⟩ := hp
  subst hp_1
  unfold rk_X14_readCond at hr
  have hN := hp_4
  unfold NBP at hN
  have hC := hp_3
  unfold CCp at hC
  obtain ⟨hC1, hC⟩ := hC
  have zr0 := fz_rng σ
  have hr2 : fz σ = 0 → 16 * (21 - rF σ 0 31).toNat + 11 ≤ n + 1 := fun h => by rw [if_pos h] at hr; exact hr
  have hr3 : 11 ≤ n + 1 := by have := hr; split at this <;> omega
  clear hr
  unfold VC_X14_readCond_39
  intro s39 y39_2 y39_3 Ws39 hy39_2 hy39_3 e39_0 e39_1 e39_2 e39_3 e39_4 e39_5 e39_6 e39_7 I39
  have Ks39 : rR s39 7 = rR σ 7 := by omega
  unfold inv_X14_readCond_39 at I39
  obtain ⟨I39_1, I39_2, I39_3, I39_4, I39_5, I39_6, I39_7, I39_8, I39_9, I39_10, I39_11, I39_12, I39_13⟩ := I39
  (try simp only [Ks39, NBP, NBQ] at I39_1 I39_2 I39_3 I39_4 I39_5 I39_6 I39_7 I39_8 I39_9 I39_10 I39_11 I39_12 I39_13)
  have zr39 := fz_rng s39
  have CCp_39 := e39_0 hp_3; clear e39_0
  obtain ⟨g39, X39⟩ := I39_13
  have G39 : Im (fz s39 = 0) _ := fun hf => (X39 hf).1
  have KA39 : Im (fz s39 = 0) _ := fun hf => (X39 hf).2.1
  have O39 : Im (fz s39 = 0) _ := fun hf => (X39 hf).2.2.1
  have L39 : Im (fz s39 = 0) _ := fun hf => (X39 hf).2.2.2.1
  intro hr_; unfold rng at hr_
  refine ⟨fun c43 => ?_, fun c43 => ?_⟩
  · have z43 := fz_n c43
    obtain ⟨gu8, Xu9⟩ := EC_55 (P := fz s39 = 0) (rF s39 0 29) (fun hf => G39 (by omega)) (fun hf => O39 (by omega)) (fun hf => by omega)
    have Ou10 : Im (fz s39 = 0) _ := fun hf => (Xu9 hf).2.1
    have Ku11 : Im (fz s39 = 0) (GK g gu8 (rF σ (rR σ 7) 7) (rF s39 (rR σ 7) 7) 0) := fun hf => GK.kc (KA39 (by omega)) (Xu9 hf).2.2 (by omega)
    have Gu12 : Im (fz s39 = 0) _ := fun hf => (Xu9 hf).1
    exact (by (try simp only [post_X14_readCond, Ks39]); (all_goals (repeat' (first | with_reducible intro _ | with_reducible apply And.intro | with_reducible refine Exists.intro gu8 ?_ | with_reducible refine Im.and ?_ ?_))); all_goals (first | assumption | trivial | (unfold NBP; (try simp only [Ks39]); omega) | (unfold NBQ; (try simp only [Ks39]); omega) | omega | (exact fun hf_ => (I39_12 (by omega))) | (exact fun hf_ => Gu12 (by omega)) | (exact fun hf_ => Ku11 (by omega)) | (exact fun hf_ => (Ou10 (by omega)).cst) | (exact fun _ => ok1.i) | (exact fun hf_ => LI.z (fun h => absurd h (by decide))) | (exact fun hf_ => absurd hf_ (by omega)) | (exact fun hf_ => by omega) | (have zz_ := fz_z (by assumption); omega) | (split <;> omega) | done))
  · have z43 := fz_z c43
    refine ⟨(by (try simp only [pre_X14_isTwice, Ks39]); (all_goals (repeat' (first | with_reducible intro _ | with_reducible apply And.intro | with_reducible refine Exists.intro g39 ?_ | with_reducible refine Im.and ?_ ?_))); all_goals (first | assumption | trivial | (unfold NBP; (try simp only [Ks39]); omega) | (unfold NBQ; (try simp only [Ks39]); omega) | omega | (exact fun hf_ => (I39_12 (by omega))) | (exact fun hf_ => G39 (by omega)) | (exact fun hf_ => KA39 (by omega)) | (exact fun hf_ => (O39 (by omega)).cst) | (exact fun hf_ => L39 (by omega)) | (exact fun _ => ok1.i) | (exact fun hf_ => LI.z (fun h => absurd h (by decide))) | (exact fun hf_ => absurd hf_ (by omega)) | (exact fun hf_ => by omega) | (have zz_ := fz_z (by assumption); omega) | (split <;> omega) | done)), ?_⟩
    intro v49 hv49 q49
    unfold rng at hv49
    unfold post_X14_isTwice at q49
    obtain ⟨q49_1, q49_2⟩ := q49
    (try simp only [Ks39, NBP, NBQ] at q49_1 q49_2)
    refine ⟨fun c52 => ?_, fun c52 => ?_⟩
    · obtain ⟨gu13, Xu14⟩ := EC_55 (P := fz s39 = 0) (rF s39 0 29) (fun hf => G39 (by omega)) (fun hf => O39 (by omega)) (fun hf => by omega)
      have Ou15 : Im (fz s39 = 0) _ := fun hf => (Xu14 hf).2.1
      have Ku16 : Im (fz s39 = 0) (GK g gu13 (rF σ (rR σ 7) 7) (rF s39 (rR σ 7) 7) 0) := fun hf => GK.kc (KA39 (by omega)) (Xu14 hf).2.2 (by omega)
      have Gu17 : Im (fz s39 = 0) _ := fun hf => (Xu14 hf).1
      exact (by (try simp only [post_X14_readCond, Ks39]); (all_goals (repeat' (first | with_reducible intro _ | with_reducible apply And.intro | with_reducible refine Exists.intro gu13 ?_ | with_reducible refine Im.and ?_ ?_))); all_goals (first | assumption | trivial | (unfold NBP; (try simp only [Ks39]); omega) | (unfold NBQ; (try simp only [Ks39]); omega) | omega | (exact fun hf_ => (I39_12 (by omega))) | (exact fun hf_ => Gu17 (by omega)) | (exact fun hf_ => Ku16 (by omega)) | (exact fun hf_ => (Ou15 (by omega)).cst) | (exact fun _ => ok1.i) | (exact fun hf_ => LI.z (fun h => absurd h (by decide))) | (exact fun hf_ => absurd hf_ (by omega)) | (exact fun hf_ => by omega) | (have zz_ := fz_z (by assumption); omega) | (split <;> omega) | done))
    · intro hr_; unfold rng at hr_
      refine ⟨(by (try simp only [rng, Ks39]); (all_goals (repeat' (first | with_reducible intro _ | with_reducible apply And.intro | with_reducible refine Exists.intro g39 ?_ | with_reducible refine Im.and ?_ ?_))); all_goals (first | assumption | trivial | (unfold NBP; (try simp only [Ks39]); omega) | (unfold NBQ; (try simp only [Ks39]); omega) | omega | (exact fun hf_ => (I39_12 (by omega))) | (exact fun hf_ => G39 (by omega)) | (exact fun hf_ => KA39 (by omega)) | (exact fun hf_ => (O39 (by omega)).cst) | (exact fun hf_ => L39 (by omega)) | (exact fun _ => ok1.i) | (exact fun hf_ => LI.z (fun h => absurd h (by decide))) | (exact fun hf_ => absurd hf_ (by omega)) | (exact fun hf_ => by omega) | (have zz_ := fz_z (by assumption); omega) | (split <;> omega) | done)), ?_⟩
      refine ⟨g39, ?_⟩
      refine ⟨(by (try simp only [pre_X14_readBoth, reduceIte, and_true, true_and, and_false, false_and, and_self, Nat.reduceEqDiff, fz_sF29, rF_sF, rA_sF, rR_sF, tr_sF, rNMp_sF, PNp_sF, GS_F29, OP_F29, NR_F29, LI_F29, RG_l29, RG_r29, TPRp_sF29, WNp_sF29, VMp_sF29, KYp_sF29, PPp_sF29, WFp_sF29, CCp_sF29, rk_n0 hp_2, Ks39]); (all_goals (repeat' (first | with_reducible intro _ | with_reducible apply And.intro | with_reducible refine Exists.intro g39 ?_ | with_reducible refine Im.and ?_ ?_))); all_goals (first | assumption | trivial | (unfold NBP; (try simp only [reduceIte, and_true, true_and, and_false, false_and, and_self, Nat.reduceEqDiff, fz_sF29, rF_sF, rA_sF, rR_sF, tr_sF, rNMp_sF, PNp_sF, GS_F29, OP_F29, NR_F29, LI_F29, RG_l29, RG_r29, TPRp_sF29, WNp_sF29, VMp_sF29, KYp_sF29, PPp_sF29, WFp_sF29, CCp_sF29, rk_n0 hp_2, Ks39]); omega) | (unfold NBQ; (try simp only [reduceIte, and_true, true_and, and_false, false_and, and_self, Nat.reduceEqDiff, fz_sF29, rF_sF, rA_sF, rR_sF, tr_sF, rNMp_sF, PNp_sF, GS_F29, OP_F29, NR_F29, LI_F29, RG_l29, RG_r29, TPRp_sF29, WNp_sF29, VMp_sF29, KYp_sF29, PPp_sF29, WFp_sF29, CCp_sF29, rk_n0 hp_2, Ks39]); omega) | omega | (exact fun hf_ => (I39_12 (by omega))) | (exact fun hf_ => G39 (by omega)) | (exact fun hf_ => KA39 (by omega)) | (exact fun hf_ => (O39 (by omega)).cst) | (exact fun hf_ => L39 (by omega)) | (exact fun _ => ok1.i) | (exact fun hf_ => LI.z (fun h => absurd h (by decide))) | (exact fun hf_ => absurd hf_ (by omega)) | (exact fun hf_ => by omega) | (have zz_ := fz_z (by assumption); omega) | (split <;> omega) | done)), ?_⟩
      refine ⟨(by (try simp only [rk_X14_readBoth, reduceIte, and_true, true_and, and_false, false_and, and_self, Nat.reduceEqDiff, fz_sF29, rF_sF, rA_sF, rR_sF, tr_sF, rNMp_sF, PNp_sF, GS_F29, OP_F29, NR_F29, LI_F29, RG_l29, RG_r29, TPRp_sF29, WNp_sF29, VMp_sF29, KYp_sF29, PPp_sF29, WFp_sF29, CCp_sF29, rk_n0 hp_2, Ks39]); (all_goals (repeat' (first | with_reducible intro _ | with_reducible apply And.intro | with_reducible refine Exists.intro g39 ?_ | with_reducible refine Im.and ?_ ?_))); all_goals (first | assumption | trivial | (unfold NBP; (try simp only [reduceIte, and_true, true_and, and_false, false_and, and_self, Nat.reduceEqDiff, fz_sF29, rF_sF, rA_sF, rR_sF, tr_sF, rNMp_sF, PNp_sF, GS_F29, OP_F29, NR_F29, LI_F29, RG_l29, RG_r29, TPRp_sF29, WNp_sF29, VMp_sF29, KYp_sF29, PPp_sF29, WFp_sF29, CCp_sF29, rk_n0 hp_2, Ks39]); omega) | (unfold NBQ; (try simp only [reduceIte, and_true, true_and, and_false, false_and, and_self, Nat.reduceEqDiff, fz_sF29, rF_sF, rA_sF, rR_sF, tr_sF, rNMp_sF, PNp_sF, GS_F29, OP_F29, NR_F29, LI_F29, RG_l29, RG_r29, TPRp_sF29, WNp_sF29, VMp_sF29, KYp_sF29, PPp_sF29, WFp_sF29, CCp_sF29, rk_n0 hp_2, Ks39]); omega) | omega | (exact fun hf_ => (I39_12 (by omega))) | (exact fun hf_ => G39 (by omega)) | (exact fun hf_ => KA39 (by omega)) | (exact fun hf_ => (O39 (by omega)).cst) | (exact fun hf_ => L39 (by omega)) | (exact fun _ => ok1.i) | (exact fun hf_ => LI.z (fun h => absurd h (by decide))) | (exact fun hf_ => absurd hf_ (by omega)) | (exact fun hf_ => by omega) | (have zz_ := fz_z (by assumption); omega) | (split <;> omega) | done)), ?_⟩
      intro v66 s66 hv66 Ws66 e66_0 e66_1 e66_2 e66_3 e66_4 e66_5 e66_6 e66_7 q66
      unfold rng at hv66
      unfold post_X14_readBoth at q66
      obtain ⟨q66_1, q66_2, q66_3, q66_4, q66_5, q66_6, q66_7, q66_8, q66_9⟩ := q66
      (try simp only [reduceIte, and_true, true_and, and_false, false_and, and_self, Nat.reduceEqDiff, fz_sF29, rF_sF, rA_sF, rR_sF, tr_sF, rNMp_sF, PNp_sF, GS_F29, OP_F29, NR_F29, LI_F29, RG_l29, RG_r29, TPRp_sF29, WNp_sF29, VMp_sF29, KYp_sF29, PPp_sF29, WFp_sF29, CCp_sF29, rk_n0 hp_2, Ks39, NBP, NBQ] at q66_1 q66_2 q66_3 q66_4 q66_5 q66_6 q66_7 q66_8 q66_9 e66_0 e66_1 e66_2 e66_3 e66_4 e66_5 e66_6 e66_7)
      have Ks66 : rR s66 7 = rR σ 7 := by (try simp only [rR_sF, rR_sA, rR_sT, rR_sL] at e66_0 e66_1 e66_2 e66_3 e66_4 e66_5 e66_6 e66_7); omega
      have zr66 := fz_rng s66
      have A66 : Im (fz s66 = 0) (RG σ s66 (rR σ 7) 0) := fun hf => RG.trk hp_2 (I39_12 (by omega)) (q66_8 (by omega)) (by omega)
      obtain ⟨g66, X66⟩ := q66_9
      have Ou18 : Im (fz s66 = 0) _ := fun hf => OP.gk0 (O39 (by omega)) ((X66 hf).2.1)
      have Lu19 : Im (fz s66 = 0) _ := fun hf => LI.gk0 hp_2 (L39 (by omega)) (O39 (by omega)) (q66_8 (by omega)) ((X66 hf).2.1)
      have Ku20 : Im (fz s66 = 0) (GK g g66 (rF σ (rR σ 7) 7) (rF s66 (rR σ 7) 7) 0) := fun hf => GK.trans (KA39 (by omega)) ((X66 hf).2.1) (by omega)
      have Gu21 : Im (fz s66 = 0) (GS s66 (rR σ 7) g66) := fun hf => (X66 hf).1
      have r66 : Im (fz s66 = 0) _ := fun hf => (X66 hf).2.2.1
      have CCp_66 := e66_0 CCp_39; clear e66_0
      intro hr_; unfold rng at hr_
      refine ⟨fun c75 => ?_, fun c75 => ?_⟩
      · have z75 := fz_z c75
        refine ⟨(by (try simp only [Ks66]); (all_goals (repeat' (first | with_reducible intro _ | with_reducible apply And.intro | with_reducible refine Exists.intro g66 ?_ | with_reducible refine Im.and ?_ ?_))); all_goals (first | assumption | trivial | (unfold NBP; (try simp only [Ks66]); omega) | (unfold NBQ; (try simp only [Ks66]); omega) | omega | (exact fun hf_ => (A66 (by omega))) | (exact fun hf_ => Gu21 (by omega)) | (exact fun hf_ => Ku20 (by omega)) | (exact fun hf_ => (Ou18 (by omega)).cst) | (exact fun hf_ => Lu19 (by omega)) | (exact fun hf_ => (r66 (by omega)).cst) | (exact fun hf_ => ((r66 (by omega)).so so_15_14).cst) | (exact fun _ => ok1.i) | (exact fun hf_ => LI.z (fun h => absurd h (by decide))) | (exact fun hf_ => absurd hf_ (by omega)) | (exact fun hf_ => by omega) | (have zz_ := fz_z (by assumption); omega) | (split <;> omega) | done)), ?_⟩
        have A90 : Im (fz s66 = 0) (RG σ (sT s66 (rR σ 7) 5 y39_3 v66) (rR σ 7) 0) := fun hf => RG.tst (f := 5) (i := y39_3) (x := v66) hp_2 (A66 (by omega)) (by decide) (by omega)
        obtain ⟨gs90, Xs90⟩ := EA_1_55 (P := fz s66 = 0) hp_2 (fun hf => Gu21 (by omega)) (fun hf => Ou18 (by omega)) (fun hf => Lu19 (by omega)) (fun hf => r66 (by omega)) (fun _ h => h) (fun hf => by omega)
        have Ku22 : Im (fz s66 = 0) (GK g gs90 (rF σ (rR σ 7) 7) (rF s66 (rR σ 7) 7) 0) := fun hf => GK.ks (Ku20 (by omega)) (Xs90 hf).2.2.2.1 (by omega) (by omega)
        have Gu23 : Im (fz s66 = 0) _ := fun hf => (Xs90 hf).1
        have Ou24 : Im (fz s66 = 0) _ := fun hf => (Xs90 hf).2.1
        have Lu25 : Im (fz s66 = 0) _ := fun hf => (Xs90 hf).2.2.1
        refine ⟨(by (try simp only [pre_X14_blanks, reduceIte, and_true, true_and, and_false, false_and, and_self, Nat.reduceEqDiff, fz_sA, rF_sA, rA_sA, rR_sA, rF_sT, rR_sT, sT_sF, fz_sT, rA_sT26 hp_2, rA_sT27 hp_2, rA_sT34 hp_2, rA_sT35 hp_2, rA_sT36 hp_2, rA_sT37 hp_2, rA_sT40 hp_2, TPRp_sT hp_2, WNp_sT hp_2, VMp_sT hp_2, KYp_sT hp_2, PPp_sT hp_2, WFp_sT hp_2, CCp_sT hp_2, rNMp_sT5, PNp_sT5, rk_n0 hp_2, Ks66]); (all_goals (repeat' (first | with_reducible intro _ | with_reducible apply And.intro | with_reducible refine Exists.intro gs90 ?_ | with_reducible refine Im.and ?_ ?_))); all_goals (first | assumption | trivial | (unfold NBP; (try simp only [reduceIte, and_true, true_and, and_false, false_and, and_self, Nat.reduceEqDiff, fz_sA, rF_sA, rA_sA, rR_sA, rF_sT, rR_sT, sT_sF, fz_sT, rA_sT26 hp_2, rA_sT27 hp_2, rA_sT34 hp_2, rA_sT35 hp_2, rA_sT36 hp_2, rA_sT37 hp_2, rA_sT40 hp_2, TPRp_sT hp_2, WNp_sT hp_2, VMp_sT hp_2, KYp_sT hp_2, PPp_sT hp_2, WFp_sT hp_2, CCp_sT hp_2, rNMp_sT5, PNp_sT5, rk_n0 hp_2, Ks66]); omega) | (unfold NBQ; (try simp only [reduceIte, and_true, true_and, and_false, false_and, and_self, Nat.reduceEqDiff, fz_sA, rF_sA, rA_sA, rR_sA, rF_sT, rR_sT, sT_sF, fz_sT, rA_sT26 hp_2, rA_sT27 hp_2, rA_sT34 hp_2, rA_sT35 hp_2, rA_sT36 hp_2, rA_sT37 hp_2, rA_sT40 hp_2, TPRp_sT hp_2, WNp_sT hp_2, VMp_sT hp_2, KYp_sT hp_2, PPp_sT hp_2, WFp_sT hp_2, CCp_sT hp_2, rNMp_sT5, PNp_sT5, rk_n0 hp_2, Ks66]); omega) | omega | (exact fun hf_ => (A90 (by omega))) | (exact fun hf_ => Gu23 (by omega)) | (exact fun hf_ => Ku22 (by omega)) | (exact fun hf_ => (Ou24 (by omega)).cst) | (exact fun hf_ => Lu25 (by omega)) | (exact fun _ => ok1.i) | (exact fun hf_ => LI.z (fun h => absurd h (by decide))) | (exact fun hf_ => absurd hf_ (by omega)) | (exact fun hf_ => by omega) | (have zz_ := fz_z (by assumption); omega) | (split <;> omega) | done)), ?_⟩
        intro s95 Ws95 e95_0 e95_1 e95_2 e95_3 e95_4 e95_5 e95_6 e95_7 e95_8 e95_9 e95_10 e95_11 e95_12 e95_13 e95_14 e95_15 e95_16 e95_17 e95_18 e95_19 R95 q95
        have q95 := dig_blanks q95 (by (try simp only [reduceIte, and_true, true_and, and_false, false_and, and_self, Nat.reduceEqDiff, fz_sA, rF_sA, rA_sA, rR_sA, rF_sT, rR_sT, sT_sF, fz_sT, rA_sT26 hp_2, rA_sT27 hp_2, rA_sT34 hp_2, rA_sT35 hp_2, rA_sT36 hp_2, rA_sT37 hp_2, rA_sT40 hp_2, TPRp_sT hp_2, WNp_sT hp_2, VMp_sT hp_2, KYp_sT hp_2, PPp_sT hp_2, WFp_sT hp_2, CCp_sT hp_2, rNMp_sT5, PNp_sT5, rk_n0 hp_2, Ks66]); omega)
        obtain ⟨q95_1, q95_2⟩ := q95
        (try simp only [reduceIte, and_true, true_and, and_false, false_and, and_self, Nat.reduceEqDiff, fz_sA, rF_sA, rA_sA, rR_sA, rF_sT, rR_sT, sT_sF, fz_sT, rA_sT26 hp_2, rA_sT27 hp_2, rA_sT34 hp_2, rA_sT35 hp_2, rA_sT36 hp_2, rA_sT37 hp_2, rA_sT40 hp_2, TPRp_sT hp_2, WNp_sT hp_2, VMp_sT hp_2, KYp_sT hp_2, PPp_sT hp_2, WFp_sT hp_2, CCp_sT hp_2, rNMp_sT5, PNp_sT5, rk_n0 hp_2, Ks66, NBP, NBQ] at q95_1 q95_2 e95_0 e95_1 e95_2 e95_3 e95_4 e95_5 e95_6 e95_7 e95_8 e95_9 e95_10 e95_11 e95_12 e95_13 e95_14 e95_15 e95_16 e95_17 e95_18 e95_19 R95)
        have Ks95 : rR s95 7 = rR σ 7 := by (try simp only [rR_sF, rR_sA, rR_sT, rR_sL] at e95_0 e95_1 e95_2 e95_3 e95_4 e95_5 e95_6 e95_7 e95_8 e95_9 e95_10 e95_11 e95_12 e95_13 e95_14 e95_15 e95_16 e95_17 e95_18 e95_19 R95); omega
        have zr95 := fz_rng s95
        have A95 : Im (fz s95 = 0) (RG σ s95 (rR σ 7) 0) := fun hf => RG.trk hp_2 (A90 (by omega)) R95 (by omega)
        have Ou26 : Im (fz s95 = 0) _ := fun hf => OP.gk0 (Ou24 (by omega)) (GK.up (g := gs90) (N := rF (sT s66 (rR σ 7) 5 y39_3 v66) (rR σ 7) 7) (N' := rF s95 (rR σ 7) 7) (c := 0) (by first | omega | (simp only [rF_sT, rF_sA]; omega)))
        have Lu27 : Im (fz s95 = 0) _ := fun hf => LI.gk0 hp_2 (Lu25 (by omega)) (Ou24 (by omega)) R95 (GK.up (g := gs90) (N := rF (sT s66 (rR σ 7) 5 y39_3 v66) (rR σ 7) 7) (N' := rF s95 (rR σ 7) 7) (c := 0) (by first | omega | (simp only [rF_sT, rF_sA]; omega)))
        have Ku28 : Im (fz s95 = 0) (GK g gs90 (rF σ (rR σ 7) 7) (rF s95 (rR σ 7) 7) 0) := fun hf => GK.trans (Ku22 (by omega)) (GK.up (N := rF (sT s66 (rR σ 7) 5 y39_3 v66) (rR σ 7) 7) (N' := rF s95 (rR σ 7) 7) (c := 0) (by first | omega | (simp only [rF_sT, rF_sA]; omega))) (by omega)
        have Gu29 : Im (fz s95 = 0) (GS s95 (rR σ 7) gs90) := fun hf => GS.mv hp_2 (Gu23 (by omega)) R95
        have rNMp_95 := e95_0 q66_2; clear e95_0
        have WNp_95 := e95_1 q66_3; clear e95_1
        have PNp_95 := e95_2 q66_4; clear e95_2
        have CCp_95 := e95_3 CCp_66; clear e95_3
        exact (by (try simp only [inv_X14_readCond_39, mu_X14_readCond_39, mu_X14_readCond_39, Ks95]); (all_goals (repeat' (first | with_reducible intro _ | with_reducible apply And.intro | with_reducible refine Exists.intro gs90 ?_ | with_reducible refine Im.and ?_ ?_))); all_goals (first | assumption | trivial | (unfold NBP; (try simp only [Ks95]); omega) | (unfold NBQ; (try simp only [Ks95]); omega) | omega | (exact fun hf_ => (A95 (by omega))) | (exact fun hf_ => Gu29 (by omega)) | (exact fun hf_ => Ku28 (by omega)) | (exact fun hf_ => (Ou26 (by omega)).cst) | (exact fun hf_ => Lu27 (by omega)) | (exact fun _ => ok1.i) | (exact fun hf_ => LI.z (fun h => absurd h (by decide))) | (exact fun hf_ => absurd hf_ (by omega)) | (exact fun hf_ => by omega) | (have zz_ := fz_z (by assumption); omega) | (split <;> omega) | done))
      · have z75 := fz_n c75
        exact (by (try simp only [post_X14_readCond, Ks66]); (all_goals (repeat' (first | with_reducible intro _ | with_reducible apply And.intro | with_reducible refine Exists.intro g66 ?_ | with_reducible refine Im.and ?_ ?_))); all_goals (first | assumption | trivial | (unfold NBP; (try simp only [Ks66]); omega) | (unfold NBQ; (try simp only [Ks66]); omega) | omega | (exact fun hf_ => (A66 (by omega))) | (exact fun hf_ => Gu21 (by omega)) | (exact fun hf_ => Ku20 (by omega)) | (exact fun hf_ => (Ou18 (by omega)).cst) | (exact fun hf_ => Lu19 (by omega)) | (exact fun hf_ => (r66 (by omega)).cst) | (exact fun hf_ => ((r66 (by omega)).so so_15_14).cst) | (exact fun _ => ok1.i) | (exact fun hf_ => LI.z (fun h => absurd h (by decide))) | (exact fun hf_ => absurd hf_ (by omega)) | (exact fun hf_ => by omega) | (have zz_ := fz_z (by assumption); omega) | (split <;> omega) | done))
set_option maxHeartbeats 4000000 in
theorem vX14_readCond_39m (n : Nat) (σ : rS) (gg : Nat) (g : Nat → Int → Int) (hwf : rWF σ) (hp : pre_X14_readCond σ gg g) (hr : rk_X14_readCond σ gg g ≤ n + 1) : VC_X14_readCond_39m n σ gg g := by
  unfold pre_X14_readCond at hp
  obtain ⟨hp_1, hp_2, hp_3, hp_4, hp_5, hp_6, hp_7, hp_8⟩ := hp
  subst hp_1
  unfold rk_X14_readCond at hr
  have hN := hp_4
  unfold NBP at hN
  have hC := hp_3
  unfold CCp at hC
  obtain ⟨hC1, hC⟩ := hC
  have zr0 := fz_rng σ
  have hr2 : fz σ = 0 → 16 * (21 - rF σ 0 31).toNat + 11 ≤ n + 1 := fun h => by rw [if_pos h] at hr; exact hr
  have hr3 : 11 ≤ n + 1 := by have := hr; split at this <;> omega
  clear hr
  unfold VC_X14_readCond_39m
  (try simp only [inv_X14_readCond_39, mu_X14_readCond_39]); (all_goals (repeat' (first | with_reducible intro _ | with_reducible apply And.intro))); all_goals (first | assumption | omega | grind (splits := 20))
set_option maxHeartbeats 4000000 in
theorem vX14_condition (n : Nat) (σ : rS) (gg : Nat) (g : Nat → Int → Int) (hwf : rWF σ) (hp : pre_X14_condition σ gg g) (hr : rk_X14_condition σ gg g ≤ n + 1) : VC_X14_condition n σ gg g (post_X14_condition σ gg g) := by
  unfold pre_X14_condition at hp
  obtain ⟨hp_1, hp_2, hp_3, hp_4, hp_5, hp_6, hp_7, hp_8⟩ := hp
  subst hp_1
  unfold rk_X14_condition at hr
  have hN := hp_4
  unfold NBP at hN
  have hC := hp_3
  unfold CCp at hC
  obtain ⟨hC1, hC⟩ := hC
  have zr0 := fz_rng σ
  have hr2 : fz σ = 0 → 16 * (21 - rF σ 0 31).toNat + 12 ≤ n + 1 := fun h => by rw [if_pos h] at hr; exact hr
  have hr3 : 12 ≤ n + 1 := by have := hr; split at this <;> omega
  clear hr
  unfold VC_X14_condition
  refine ⟨(by (all_goals (repeat' (first | with_reducible intro _ | with_reducible apply And.intro))); all_goals (first | assumption | trivial | (unfold NBP; omega) | (unfold NBQ; omega) | omega | (have zz_ := fz_z (by assumption); omega) | (split <;> omega) | done)), ?_⟩
  intro hr_; unfold rng at hr_
  refine ⟨fun c4 => ?_, fun c4 => ?_⟩
  · have z4 := fz_z c4
    refine ⟨(by (try simp only [pre_X14_need]); (all_goals (repeat' (first | with_reducible intro _ | with_reducible apply And.intro | with_reducible refine Exists.intro g ?_ | with_reducible refine Im.and ?_ ?_))); all_goals (first | assumption | trivial | (unfold NBP; omega) | (unfold NBQ; omega) | omega | (exact fun hf_ => ((fun _ => RG.rf) (by omega))) | (exact fun hf_ => hp_8 (by omega)) | (exact fun hf_ => (fun _ => GK.rf) (by omega)) | (exact fun _ => ok1.i) | (exact fun hf_ => LI.z (fun h => absurd h (by decide))) | (exact fun hf_ => absurd hf_ (by omega)) | (exact fun hf_ => by omega) | (have zz_ := fz_z (by assumption); omega) | (split <;> omega) | done)), ?_⟩
    intro s12 Ws12 e12_0 e12_1 e12_2 e12_3 e12_4 e12_5 e12_6 e12_7 e12_8 e12_9 e12_10 e12_11 e12_12 e12_13 e12_14 e12_15 e12_16 e12_17 e12_18 e12_19 R12 q12
    have q12 := dig_need q12 (by omega)
    obtain ⟨q12_1, q12_2, q12_3, q12_4⟩ := q12
    (try simp only [NBP, NBQ] at q12_1 q12_2 q12_3 q12_4 e12_0 e12_1 e12_2 e12_3 e12_4 e12_5 e12_6 e12_7 e12_8 e12_9 e12_10 e12_11 e12_12 e12_13 e12_14 e12_15 e12_16 e12_17 e12_18 e12_19 R12)
    have Ks12 : rR s12 7 = rR σ 7 := by (try simp only [rR_sF, rR_sA, rR_sT, rR_sL] at e12_0 e12_1 e12_2 e12_3 e12_4 e12_5 e12_6 e12_7 e12_8 e12_9 e12_10 e12_11 e12_12 e12_13 e12_14 e12_15 e12_16 e12_17 e12_18 e12_19 R12); omega
    have zr12 := fz_rng s12
    have A12 : Im (fz s12 = 0) (RG σ s12 (rR σ 7) 0) := fun hf => RG.trk hp_2 ((fun _ => RG.rf) (by omega)) R12 (by omega)
    have Ku1 : Im (fz s12 = 0) (GK g g (rF σ (rR σ 7) 7) (rF s12 (rR σ 7) 7) 0) := fun hf => GK.trans ((fun _ => GK.rf) (by omega)) (GK.up (N := rF σ (rR σ 7) 7) (N' := rF s12 (rR σ 7) 7) (c := 0) (by first | omega | (simp only [rF_sT, rF_sA]; omega))) (by omega)
    have Gu2 : Im (fz s12 = 0) (GS s12 (rR σ 7) g) := fun hf => GS.mv hp_2 (hp_8 (by omega)) R12
    have rNMp_12 := e12_0 hp_5; clear e12_0
    have TPRp_12 := e12_1 hC1; clear e12_1
    have WNp_12 := e12_2 hp_6; clear e12_2
    have PNp_12 := e12_3 hp_7; clear e12_3
    have CCp_12 := e12_4 hp_3; clear e12_4
    refine ⟨g, ?_⟩
    refine ⟨(by (try simp only [pre_X14_readCond, Ks12]); (all_goals (repeat' (first | with_reducible intro _ | with_reducible apply And.intro | with_reducible refine Exists.intro g ?_ | with_reducible refine Im.and ?_ ?_))); all_goals (first | assumption | trivial | (unfold NBP; (try simp only [Ks12]); omega) | (unfold NBQ; (try simp only [Ks12]); omega) | omega | (exact fun hf_ => (A12 (by omega))) | (exact fun hf_ => Gu2 (by omega)) | (exact fun hf_ => Ku1 (by omega)) | (exact fun _ => ok1.i) | (exact fun hf_ => LI.z (fun h => absurd h (by decide))) | (exact fun hf_ => absurd hf_ (by omega)) | (exact fun hf_ => by omega) | (have zz_ := fz_z (by assumption); omega) | (split <;> omega) | done)), ?_⟩
    refine ⟨(by (try simp only [rk_X14_readCond, Ks12]); (all_goals (repeat' (first | with_reducible intro _ | with_reducible apply And.intro | with_reducible refine Exists.intro g ?_ | with_reducible refine Im.and ?_ ?_))); all_goals (first | assumption | trivial | (unfold NBP; (try simp only [Ks12]); omega) | (unfold NBQ; (try simp only [Ks12]); omega) | omega | (exact fun hf_ => (A12 (by omega))) | (exact fun hf_ => Gu2 (by omega)) | (exact fun hf_ => Ku1 (by omega)) | (exact fun _ => ok1.i) | (exact fun hf_ => LI.z (fun h => absurd h (by decide))) | (exact fun hf_ => absurd hf_ (by omega)) | (exact fun hf_ => by omega) | (have zz_ := fz_z (by assumption); omega) | (split <;> omega) | done)), ?_⟩
    intro v16 s16 hv16 Ws16 e16_0 e16_1 e16_2 e16_3 e16_4 e16_5 e16_6 e16_7 e16_8 q16
    unfold rng at hv16
    unfold post_X14_readCond at q16
    obtain ⟨q16_1, q16_2, q16_3, q16_4, q16_5, q16_6, q16_7, q16_8, q16_9⟩ := q16
    (try simp only [Ks12, NBP, NBQ] at q16_1 q16_2 q16_3 q16_4 q16_5 q16_6 q16_7 q16_8 q16_9 e16_0 e16_1 e16_2 e16_3 e16_4 e16_5 e16_6 e16_7 e16_8)
    have Ks16 : rR s16 7 = rR σ 7 := by (try simp only [rR_sF, rR_sA, rR_sT, rR_sL] at e16_0 e16_1 e16_2 e16_3 e16_4 e16_5 e16_6 e16_7 e16_8); omega
    have zr16 := fz_rng s16
    have A16 : Im (fz s16 = 0) (RG σ s16 (rR σ 7) 0) := fun hf => RG.trk hp_2 (A12 (by omega)) (q16_8 (by omega)) (by omega)
    obtain ⟨g16, X16⟩ := q16_9
    have Ku3 : Im (fz s16 = 0) (GK g g16 (rF σ (rR σ 7) 7) (rF s16 (rR σ 7) 7) 0) := fun hf => GK.trans (Ku1 (by omega)) ((X16 hf).2.1) (by omega)
    have Gu4 : Im (fz s16 = 0) (GS s16 (rR σ 7) g16) := fun hf => (X16 hf).1
    have r16 : Im (fz s16 = 0) _ := fun hf => (X16 hf).2.2.1
    have TPRp_16 := e16_0 TPRp_12; clear e16_0
    have CCp_16 := e16_1 CCp_12; clear e16_1
    refine ⟨(by (try simp only [pre_X14_need, Ks16]); (all_goals (repeat' (first | with_reducible intro _ | with_reducible apply And.intro | with_reducible refine Exists.intro g16 ?_ | with_reducible refine Im.and ?_ ?_))); all_goals (first | assumption | trivial | (unfold NBP; (try simp only [Ks16]); omega) | (unfold NBQ; (try simp only [Ks16]); omega) | omega | (exact fun hf_ => (A16 (by omega))) | (exact fun hf_ => Gu4 (by omega)) | (exact fun hf_ => Ku3 (by omega)) | (exact fun hf_ => (r16 (by omega)).cst) | (exact fun _ => ok1.i) | (exact fun hf_ => LI.z (fun h => absurd h (by decide))) | (exact fun hf_ => absurd hf_ (by omega)) | (exact fun hf_ => by omega) | (have zz_ := fz_z (by assumption); omega) | (split <;> omega) | done)), ?_⟩
    intro s23 Ws23 e23_0 e23_1 e23_2 e23_3 e23_4 e23_5 e23_6 e23_7 e23_8 e23_9 e23_10 e23_11 e23_12 e23_13 e23_14 e23_15 e23_16 e23_17 e23_18 e23_19 R23 q23
    have q23 := dig_need q23 (by (try simp only [Ks16]); omega)
    obtain ⟨q23_1, q23_2, q23_3, q23_4⟩ := q23
    (try simp only [Ks16, NBP, NBQ] at q23_1 q23_2 q23_3 q23_4 e23_0 e23_1 e23_2 e23_3 e23_4 e23_5 e23_6 e23_7 e23_8 e23_9 e23_10 e23_11 e23_12 e23_13 e23_14 e23_15 e23_16 e23_17 e23_18 e23_19 R23)
    have Ks23 : rR s23 7 = rR σ 7 := by (try simp only [rR_sF, rR_sA, rR_sT, rR_sL] at e23_0 e23_1 e23_2 e23_3 e23_4 e23_5 e23_6 e23_7 e23_8 e23_9 e23_10 e23_11 e23_12 e23_13 e23_14 e23_15 e23_16 e23_17 e23_18 e23_19 R23); omega
    have zr23 := fz_rng s23
    have A23 : Im (fz s23 = 0) (RG σ s23 (rR σ 7) 0) := fun hf => RG.trk hp_2 (A16 (by omega)) R23 (by omega)
    have r16u5 : Im (fz s23 = 0) _ := fun hf => NR.gk (r16 (by omega)) (GK.up (g := g16) (N := rF s16 (rR σ 7) 7) (N' := rF s23 (rR σ 7) 7) (c := 0) (by first | omega | (simp only [rF_sT, rF_sA]; omega)))
    have Ku6 : Im (fz s23 = 0) (GK g g16 (rF σ (rR σ 7) 7) (rF s23 (rR σ 7) 7) 0) := fun hf => GK.trans (Ku3 (by omega)) (GK.up (N := rF s16 (rR σ 7) 7) (N' := rF s23 (rR σ 7) 7) (c := 0) (by first | omega | (simp only [rF_sT, rF_sA]; omega))) (by omega)
    have Gu7 : Im (fz s23 = 0) (GS s23 (rR σ 7) g16) := fun hf => GS.mv hp_2 (Gu4 (by omega)) R23
    have rNMp_23 := e23_0 q16_2; clear e23_0
    have TPRp_23 := e23_1 TPRp_16; clear e23_1
    have WNp_23 := e23_2 q16_3; clear e23_2
    have PNp_23 := e23_3 q16_4; clear e23_3
    have CCp_23 := e23_4 CCp_16; clear e23_4
    intro hr_; unfold rng at hr_
    refine ⟨(by (try simp only [pre_X14_need, Ks23]); (all_goals (repeat' (first | with_reducible intro _ | with_reducible apply And.intro | with_reducible refine Exists.intro g16 ?_ | with_reducible refine Im.and ?_ ?_))); all_goals (first | assumption | trivial | (unfold NBP; (try simp only [Ks23]); omega) | (unfold NBQ; (try simp only [Ks23]); omega) | omega | (exact fun hf_ => (A23 (by omega))) | (exact fun hf_ => Gu7 (by omega)) | (exact fun hf_ => Ku6 (by omega)) | (exact fun hf_ => (r16u5 (by omega)).cst) | (exact fun _ => ok1.i) | (exact fun hf_ => LI.z (fun h => absurd h (by decide))) | (exact fun hf_ => absurd hf_ (by omega)) | (exact fun hf_ => by omega) | (have zz_ := fz_z (by assumption); omega) | (split <;> omega) | done)), ?_⟩
    intro s31 Ws31 e31_0 e31_1 e31_2 e31_3 e31_4 e31_5 e31_6 e31_7 e31_8 e31_9 e31_10 e31_11 e31_12 e31_13 e31_14 e31_15 e31_16 e31_17 e31_18 e31_19 R31 q31
    have q31 := dig_need q31 (by (try simp only [Ks23]); omega)
    obtain ⟨q31_1, q31_2, q31_3, q31_4⟩ := q31
    (try simp only [Ks23, NBP, NBQ] at q31_1 q31_2 q31_3 q31_4 e31_0 e31_1 e31_2 e31_3 e31_4 e31_5 e31_6 e31_7 e31_8 e31_9 e31_10 e31_11 e31_12 e31_13 e31_14 e31_15 e31_16 e31_17 e31_18 e31_19 R31)
    have Ks31 : rR s31 7 = rR σ 7 := by (try simp only [rR_sF, rR_sA, rR_sT, rR_sL] at e31_0 e31_1 e31_2 e31_3 e31_4 e31_5 e31_6 e31_7 e31_8 e31_9 e31_10 e31_11 e31_12 e31_13 e31_14 e31_15 e31_16 e31_17 e31_18 e31_19 R31); omega
    have zr31 := fz_rng s31
    have A31 : Im (fz s31 = 0) (RG σ s31 (rR σ 7) 0) := fun hf => RG.trk hp_2 (A23 (by omega)) R31 (by omega)
    have r16u8 : Im (fz s31 = 0) _ := fun hf => NR.gk (r16u5 (by omega)) (GK.up (g := g16) (N := rF s23 (rR σ 7) 7) (N' := rF s31 (rR σ 7) 7) (c := 0) (by first | omega | (simp only [rF_sT, rF_sA]; omega)))
    have Ku9 : Im (fz s31 = 0) (GK g g16 (rF σ (rR σ 7) 7) (rF s31 (rR σ 7) 7) 0) := fun hf => GK.trans (Ku6 (by omega)) (GK.up (N := rF s23 (rR σ 7) 7) (N' := rF s31 (rR σ 7) 7) (c := 0) (by first | omega | (simp only [rF_sT, rF_sA]; omega))) (by omega)
    have Gu10 : Im (fz s31 = 0) (GS s31 (rR σ 7) g16) := fun hf => GS.mv hp_2 (Gu7 (by omega)) R31
    have rNMp_31 := e31_0 rNMp_23; clear e31_0
    have TPRp_31 := e31_1 TPRp_23; clear e31_1
    have WNp_31 := e31_2 WNp_23; clear e31_2
    have PNp_31 := e31_3 PNp_23; clear e31_3
    have CCp_31 := e31_4 CCp_23; clear e31_4
    exact (by (try simp only [post_X14_condition, Ks31]); (all_goals (repeat' (first | with_reducible intro _ | with_reducible apply And.intro | with_reducible refine Exists.intro g16 ?_ | with_reducible refine Im.and ?_ ?_))); all_goals (first | assumption | trivial | (unfold NBP; (try simp only [Ks31]); omega) | (unfold NBQ; (try simp only [Ks31]); omega) | omega | (exact fun hf_ => (A31 (by omega))) | (exact fun hf_ => Gu10 (by omega)) | (exact fun hf_ => Ku9 (by omega)) | (exact fun hf_ => (r16u8 (by omega)).cst) | (exact fun _ => ok1.i) | (exact fun hf_ => LI.z (fun h => absurd h (by decide))) | (exact fun hf_ => absurd hf_ (by omega)) | (exact fun hf_ => by omega) | (have zz_ := fz_z (by assumption); omega) | (split <;> omega) | done))
  · have z4 := fz_n c4
    exact (by (try simp only [post_X14_condition]); (all_goals (repeat' (first | with_reducible intro _ | with_reducible apply And.intro | with_reducible refine Exists.intro g ?_ | with_reducible refine Im.and ?_ ?_))); all_goals (first | assumption | trivial | (unfold NBP; omega) | (unfold NBQ; omega) | omega | (exact fun hf_ => ((fun _ => RG.rf) (by omega))) | (exact fun hf_ => hp_8 (by omega)) | (exact fun hf_ => (fun _ => GK.rf) (by omega)) | (exact fun _ => ok1.i) | (exact fun hf_ => LI.z (fun h => absurd h (by decide))) | (exact fun hf_ => absurd hf_ (by omega)) | (exact fun hf_ => by omega) | (have zz_ := fz_z (by assumption); omega) | (split <;> omega) | done))
