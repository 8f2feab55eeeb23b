set_option maxHeartbeats 20000000 in
theorem vX14_readNot (n : Nat) (σ : rS) (gg : Nat) (g : Nat → Int → Int) (hwf : rWF σ) (hp : pre_X14_readNot σ gg g) (hr : rk_X14_readNot σ gg g ≤ n + 1) : VC_X14_readNot n σ gg g (post_X14_readNot σ gg g) := by
  unfold pre_X14_readNot at hp
  obtain ⟨hp_1, hp_2, hp_3, hp_4, hp_5, hp_6, hp_7, hp_8⟩ := hp
  subst hp_1
  unfold rk_X14_readNot at hr
  have hN := hp_4
  unfold NBP at hN
  have hC := hp_3
  unfold CCp at hC
  obtain ⟨hC1, hC⟩ := hC
  have zr0 := fz_rng σ
  have hr2 : fz σ = 0 → 16 * (21 - rF σ 0 31).toNat + 9 ≤ n + 1 := fun h => by rw [if_pos h] at hr; exact hr
  have hr3 : 9 ≤ n + 1 := by have := hr; split at this <;> omega
  clear hr
  unfold VC_X14_readNot
  refine ⟨(by (all_goals (repeat' (first | with_reducible intro _ | with_reducible apply And.intro))); all_goals (first | assumption | trivial | (unfold NBP; omega) | (unfold NBQ; omega) | omega | (have zz_ := fz_z (by assumption); omega) | (split <;> omega) | done)), ?_⟩
  refine ⟨(by (try simp only [pre_X14_blanks]); (all_goals (repeat' (first | with_reducible intro _ | with_reducible apply And.intro | with_reducible refine Exists.intro g ?_ | with_reducible refine Im.and ?_ ?_))); all_goals (first | assumption | trivial | ((with_reducible refine Im.i fun hf_ => ?_); first | exact ((fun _ => RG.rf) hf_) | exact (hp_8 hf_) | exact ((fun _ => GK.rf) hf_) | exact ok1.i | (exact LI.z (fun h => absurd h (by decide))) | (exact absurd hf_ (by omega)) | omega) | (unfold NBP; omega) | (unfold NBQ; omega) | omega | (have zz_ := fz_z (by assumption); omega) | (split <;> omega) | done)), ?_⟩
  intro s1 Ws1 e1_0 e1_1 e1_2 e1_3 e1_4 e1_5 e1_6 e1_7 e1_8 e1_9 e1_10 e1_11 e1_12 e1_13 e1_14 e1_15 e1_16 e1_17 e1_18 e1_19 e1_20 e1_21 e1_22 R1 q1
  have q1 := dig_blanks q1 (by omega)
  obtain ⟨q1_1, q1_2⟩ := q1
  (try simp only [NBP, NBQ] at q1_1 q1_2 e1_0 e1_1 e1_2 e1_3 e1_4 e1_5 e1_6 e1_7 e1_8 e1_9 e1_10 e1_11 e1_12 e1_13 e1_14 e1_15 e1_16 e1_17 e1_18 e1_19 e1_20 e1_21 e1_22 R1)
  have Ks1 : rR s1 7 = rR σ 7 := by first | assumption | ((try simp only [rR_sF, rR_sA, rR_sT, rR_sL] at e1_0 e1_1 e1_2 e1_3 e1_4 e1_5 e1_6 e1_7 e1_8 e1_9 e1_10 e1_11 e1_12 e1_13 e1_14 e1_15 e1_16 e1_17 e1_18 e1_19 e1_20 e1_21 e1_22 R1); omega)
  have zr1 := fz_rng s1
  have zc1 : fz s1 = 0 → fz σ = 0 := fun hf => by omega
  have A1 : Im (fz s1 = 0) (RG σ s1 (rR σ 7) 0) := fun hf => RG.trk hp_2 ((fun _ => RG.rf) (zc1 hf)) R1 (Or.inr (Or.inl rfl))
  have Ku1 : Im (fz s1 = 0) (GK g g (rF σ (rR σ 7) 7) (rF s1 (rR σ 7) 7) 0) := fun hf => GK.trans ((fun _ => GK.rf) (zc1 hf)) (GK.up (N := rF σ (rR σ 7) 7) (N' := rF s1 (rR σ 7) 7) (c := 0) (by first | assumption | omega | (simp only [rF_sT, rF_sA]; omega))) (Or.inr (Or.inl rfl))
  have Gu2 : Im (fz s1 = 0) (GS s1 (rR σ 7) g) := fun hf => GS.mv hp_2 (hp_8 (zc1 hf)) R1 (by first | assumption | omega | (simp only [rF_sT, rF_sA]; omega)) (by first | (exact Int.le_of_eq (Eq.symm (by assumption))) | omega | (simp only [rF_sT, rF_sA]; omega))
  have rNMp_1 := e1_0 hp_5; clear e1_0
  have TPRp_1 := e1_1 hC1; clear e1_1
  have WNp_1 := e1_2 hp_6; clear e1_2
  have PNp_1 := e1_3 hp_7; clear e1_3
  have CCp_1 := e1_4 hp_3; clear e1_4
  intro hr_; unfold rng at hr_
  refine ⟨fun c8 => ?_, fun c8 => ?_⟩
  · have z8 := fz_z c8
    refine ⟨(by (try simp only [pre_X14_place, Ks1]); (all_goals (repeat' (first | with_reducible intro _ | with_reducible apply And.intro | with_reducible refine Exists.intro g ?_ | with_reducible refine Im.and ?_ ?_))); all_goals (first | assumption | trivial | ((with_reducible refine Im.i fun hf_ => ?_); first | exact (A1 hf_) | exact (Gu2 hf_) | exact (Ku1 hf_) | exact ok1.i | (exact LI.z (fun h => absurd h (by decide))) | (exact absurd hf_ (by omega)) | omega) | (unfold NBP; (try simp only [Ks1]); omega) | (unfold NBQ; (try simp only [Ks1]); omega) | omega | (have zz_ := fz_z (by assumption); omega) | (split <;> omega) | done)), ?_⟩
    intro v14 hv14 q14
    unfold rng at hv14
    unfold post_X14_place at q14
    obtain ⟨q14_1, q14_2⟩ := q14
    (try simp only [Ks1, NBP, NBQ] at q14_1 q14_2)
    refine ⟨(by (try simp only [pre_X14_here, Ks1]); (all_goals (repeat' (first | with_reducible intro _ | with_reducible apply And.intro | with_reducible refine Exists.intro g ?_ | with_reducible refine Im.and ?_ ?_))); all_goals (first | assumption | trivial | ((with_reducible refine Im.i fun hf_ => ?_); first | exact (A1 hf_) | exact (Gu2 hf_) | exact (Ku1 hf_) | exact ok1.i | (exact LI.z (fun h => absurd h (by decide))) | (exact absurd hf_ (by omega)) | omega) | (unfold NBP; (try simp only [Ks1]); omega) | (unfold NBQ; (try simp only [Ks1]); omega) | omega | (have zz_ := fz_z (by assumption); omega) | (split <;> omega) | done)), ?_⟩
    intro v19 hv19 q19
    unfold rng at hv19
    unfold post_X14_here at q19
    obtain ⟨q19_1, q19_2⟩ := q19
    (try simp only [Ks1, NBP, NBQ] at q19_1 q19_2)
    refine ⟨fun c24 => ?_, fun c24 => ?_⟩
    · refine ⟨(by (try simp only [pre_X14_here, Ks1]); (all_goals (repeat' (first | with_reducible intro _ | with_reducible apply And.intro | with_reducible refine Exists.intro g ?_ | with_reducible refine Im.and ?_ ?_))); all_goals (first | assumption | trivial | ((with_reducible refine Im.i fun hf_ => ?_); first | exact (A1 hf_) | exact (Gu2 hf_) | exact (Ku1 hf_) | exact ok1.i | (exact LI.z (fun h => absurd h (by decide))) | (exact absurd hf_ (by omega)) | omega) | (unfold NBP; (try simp only [Ks1]); omega) | (unfold NBQ; (try simp only [Ks1]); omega) | omega | (have zz_ := fz_z (by assumption); omega) | (split <;> omega) | done)), ?_⟩
      intro v68 hv68 q68
      unfold rng at hv68
      unfold post_X14_here at q68
      obtain ⟨q68_1, q68_2⟩ := q68
      (try simp only [Ks1, NBP, NBQ] at q68_1 q68_2)
      refine ⟨fun c73 => ?_, fun c73 => ?_⟩
      · refine ⟨g, ?_⟩
        refine ⟨(by (try simp only [pre_X14_readMember, Ks1]); (all_goals (repeat' (first | with_reducible intro _ | with_reducible apply And.intro | with_reducible refine Exists.intro g ?_ | with_reducible refine Im.and ?_ ?_))); all_goals (first | assumption | trivial | ((with_reducible refine Im.i fun hf_ => ?_); first | exact (A1 hf_) | exact (Gu2 hf_) | exact (Ku1 hf_) | exact ok1.i | (exact LI.z (fun h => absurd h (by decide))) | (exact absurd hf_ (by omega)) | omega) | (unfold NBP; (try simp only [Ks1]); omega) | (unfold NBQ; (try simp only [Ks1]); omega) | omega | (have zz_ := fz_z (by assumption); omega) | (split <;> omega) | done)), ?_⟩
        refine ⟨(by (try simp only [rk_X14_readMember, Ks1]); (all_goals (repeat' (first | with_reducible intro _ | with_reducible apply And.intro | with_reducible refine Exists.intro g ?_ | with_reducible refine Im.and ?_ ?_))); all_goals (first | assumption | trivial | ((with_reducible refine Im.i fun hf_ => ?_); first | exact (A1 hf_) | exact (Gu2 hf_) | exact (Ku1 hf_) | exact ok1.i | (exact LI.z (fun h => absurd h (by decide))) | (exact absurd hf_ (by omega)) | omega) | (unfold NBP; (try simp only [Ks1]); omega) | (unfold NBQ; (try simp only [Ks1]); omega) | omega | (have zz_ := fz_z (by assumption); omega) | (split <;> omega) | done)), ?_⟩
        intro v126 s126 hv126 Ws126 e126_0 e126_1 e126_2 e126_3 e126_4 e126_5 e126_6 e126_7 e126_8 e126_9 q126
        unfold rng at hv126
        unfold post_X14_readMember at q126
        obtain ⟨q126_1, q126_2, q126_3, q126_4, q126_5, q126_6, q126_7, q126_8, q126_9⟩ := q126
        (try simp only [Ks1, NBP, NBQ] at q126_1 q126_2 q126_3 q126_4 q126_5 q126_6 q126_7 q126_8 q126_9 e126_0 e126_1 e126_2 e126_3 e126_4 e126_5 e126_6 e126_7 e126_8 e126_9)
        have Ks126 : rR s126 7 = rR σ 7 := by first | assumption | ((try simp only [rR_sF, rR_sA, rR_sT, rR_sL] at e126_0 e126_1 e126_2 e126_3 e126_4 e126_5 e126_6 e126_7 e126_8 e126_9); omega)
        have zr126 := fz_rng s126
        have zc126 : fz s126 = 0 → fz s1 = 0 := fun hf => by omega
        have A126 : Im (fz s126 = 0) (RG σ s126 (rR σ 7) 0) := fun hf => RG.trk hp_2 (A1 (zc126 hf)) (q126_8 (by omega)) (Or.inr (Or.inl rfl))
        obtain ⟨g126, X126⟩ := q126_9
        have Ku3 : Im (fz s126 = 0) (GK g g126 (rF σ (rR σ 7) 7) (rF s126 (rR σ 7) 7) 0) := fun hf => GK.trans (Ku1 (zc126 hf)) ((X126 hf).2.1) (Or.inr (Or.inl rfl))
        have Gu4 : Im (fz s126 = 0) (GS s126 (rR σ 7) g126) := fun hf => (X126 hf).1
        have r126 : Im (fz s126 = 0) _ := fun hf => (X126 hf).2.2.1
        have TPRp_126 := e126_0 TPRp_1; clear e126_0
        have CCp_126 := e126_1 CCp_1; clear e126_1
        refine ⟨(by (try simp only [pre_X14_node_t, Ks126]); (all_goals (repeat' (first | with_reducible intro _ | with_reducible apply And.intro | with_reducible refine Exists.intro g126 ?_ | with_reducible refine Im.and ?_ ?_))); all_goals (first | assumption | trivial | ((with_reducible refine Im.i fun hf_ => ?_); first | exact (A126 hf_) | exact (Gu4 hf_) | exact (Ku3 hf_) | exact (r126 hf_).cst | exact ok1.i | (exact LI.z (fun h => absurd h (by decide))) | (exact absurd hf_ (by omega)) | omega) | (unfold NBP; (try simp only [Ks126]); omega) | (unfold NBQ; (try simp only [Ks126]); omega) | omega | (have zz_ := fz_z (by assumption); omega) | (split <;> omega) | done)), ?_⟩
        intro v131 s131 hv131 Ws131 e131_0 e131_1 e131_2 e131_3 e131_4 e131_5 e131_6 e131_7 e131_8 e131_9 e131_10 e131_11 e131_12 e131_13 e131_14 e131_15 e131_16 e131_17 e131_18 e131_19 e131_20 e131_21 q131
        unfold rng at hv131
        unfold post_X14_node_t at q131
        obtain ⟨q131_1, q131_2, q131_3, q131_4, q131_5, q131_6, q131_7, q131_8, q131_9, q131_10⟩ := q131
        (try simp only [Ks126, NBP, NBQ] at q131_1 q131_2 q131_3 q131_4 q131_5 q131_6 q131_7 q131_8 q131_9 q131_10 e131_0 e131_1 e131_2 e131_3 e131_4 e131_5 e131_6 e131_7 e131_8 e131_9 e131_10 e131_11 e131_12 e131_13 e131_14 e131_15 e131_16 e131_17 e131_18 e131_19 e131_20 e131_21)
        have Ks131 : rR s131 7 = rR σ 7 := by first | assumption | ((try simp only [rR_sF, rR_sA, rR_sT, rR_sL] at e131_0 e131_1 e131_2 e131_3 e131_4 e131_5 e131_6 e131_7 e131_8 e131_9 e131_10 e131_11 e131_12 e131_13 e131_14 e131_15 e131_16 e131_17 e131_18 e131_19 e131_20 e131_21); omega)
        have zr131 := fz_rng s131
        have zc131 : fz s131 = 0 → fz s126 = 0 := fun hf => by omega
        have A131 : Im (fz s131 = 0) (RG σ s131 (rR σ 7) 0) := fun hf => RG.trk hp_2 (A126 (zc131 hf)) q131_3 (Or.inr (Or.inl rfl))
        obtain ⟨g131, X131⟩ := EV_58 (P := fz s131 = 0) (rF s1 0 29) (rF s126 0 31) hp_2 (fun hf => Gu4 (zc131 hf)) (fun hf => r126 (zc131 hf)) (fun _ h => h) (fun hf => q131_3) q131_1 q131_2 q131_4 q131_5 q131_6 q131_9 (fun hf => by (try simp only [rF_sT, rF_sA]); (repeat' (with_reducible apply And.intro)) <;> first | trivial | omega)
        have Ku5 : Im (fz s131 = 0) (GK g g131 (rF σ (rR σ 7) 7) (rF s131 (rR σ 7) 7) 0) := fun hf => GK.kv (Ku3 (zc131 hf)) (X131 hf).2.1 (by omega)
        have Gu6 : Im (fz s131 = 0) _ := fun hf => (X131 hf).1
        have O131 : Im (fz s131 = 0) _ := fun hf => (X131 hf).2.2.1
        have L131_1 : Im (fz s131 = 0) _ := fun hf => (X131 hf).2.2.2.1
        have rNMp_131 := e131_0 q126_2; clear e131_0
        have TPRp_131 := e131_1 TPRp_126; clear e131_1
        have WNp_131 := e131_2 q126_3; clear e131_2
        have CCp_131 := e131_3 CCp_126; clear e131_3
        obtain ⟨gu7, Xu8⟩ := EC_58 (P := fz s131 = 0) (rF s126 0 29) Gu6 O131 (fun hf => by omega)
        have O131u9 : Im (fz s131 = 0) _ := fun hf => (Xu8 hf).2.1
        have Ku10 : Im (fz s131 = 0) (GK g gu7 (rF σ (rR σ 7) 7) (rF s131 (rR σ 7) 7) 0) := fun hf => GK.kc (Ku5 hf) (Xu8 hf).2.2 (by omega)
        have Gu11 : Im (fz s131 = 0) _ := fun hf => (Xu8 hf).1
        exact (by (try simp only [post_X14_readNot, Ks131]); (all_goals (repeat' (first | with_reducible intro _ | with_reducible apply And.intro | with_reducible refine Exists.intro gu7 ?_ | with_reducible refine Im.and ?_ ?_))); all_goals (first | assumption | trivial | ((with_reducible refine Im.i fun hf_ => ?_); first | exact (A131 hf_) | exact (Gu11 hf_) | exact (Ku10 hf_) | exact (O131u9 hf_).cst | exact ((O131u9 hf_).so so_16_15).cst | exact ((O131u9 hf_).so so_16_14).cst | exact ok1.i | (exact LI.z (fun h => absurd h (by decide))) | (exact absurd hf_ (by omega)) | omega) | (unfold NBP; (try simp only [Ks131]); omega) | (unfold NBQ; (try simp only [Ks131]); omega) | omega | (have zz_ := fz_z (by assumption); omega) | (split <;> omega) | done))
      · refine ⟨(by (try simp only [pre_X14_deeper, Ks1]); (all_goals (repeat' (first | with_reducible intro _ | with_reducible apply And.intro | with_reducible refine Exists.intro g ?_ | with_reducible refine Im.and ?_ ?_))); all_goals (first | assumption | trivial | ((with_reducible refine Im.i fun hf_ => ?_); first | exact (A1 hf_) | exact (Gu2 hf_) | exact (Ku1 hf_) | exact ok1.i | (exact LI.z (fun h => absurd h (by decide))) | (exact absurd hf_ (by omega)) | omega) | (unfold NBP; (try simp only [Ks1]); omega) | (unfold NBQ; (try simp only [Ks1]); omega) | omega | (have zz_ := fz_z (by assumption); omega) | (split <;> omega) | done)), ?_⟩
        intro s78 Ws78 e78_0 e78_1 e78_2 e78_3 e78_4 e78_5 e78_6 e78_7 e78_8 e78_9 e78_10 e78_11 e78_12 e78_13 e78_14 e78_15 e78_16 e78_17 e78_18 e78_19 e78_20 R78 q78
        have q78 := dig_deeper q78 (by (try simp only [Ks1]); omega)
        obtain ⟨q78_1, q78_2, q78_3⟩ := q78
        (try simp only [Ks1, NBP, NBQ] at q78_1 q78_2 q78_3 e78_0 e78_1 e78_2 e78_3 e78_4 e78_5 e78_6 e78_7 e78_8 e78_9 e78_10 e78_11 e78_12 e78_13 e78_14 e78_15 e78_16 e78_17 e78_18 e78_19 e78_20 R78)
        have Ks78 : rR s78 7 = rR σ 7 := by first | assumption | ((try simp only [rR_sF, rR_sA, rR_sT, rR_sL] at e78_0 e78_1 e78_2 e78_3 e78_4 e78_5 e78_6 e78_7 e78_8 e78_9 e78_10 e78_11 e78_12 e78_13 e78_14 e78_15 e78_16 e78_17 e78_18 e78_19 e78_20 R78); omega)
        have zr78 := fz_rng s78
        have zc78 : fz s78 = 0 → fz s1 = 0 := fun hf => by omega
        have A78 : Im (fz s78 = 0) (RG σ s78 (rR σ 7) 0) := fun hf => RG.trk hp_2 (A1 (zc78 hf)) R78 (Or.inr (Or.inl rfl))
        have Ku12 : Im (fz s78 = 0) (GK g g (rF σ (rR σ 7) 7) (rF s78 (rR σ 7) 7) 0) := fun hf => GK.trans (Ku1 (zc78 hf)) (GK.up (N := rF s1 (rR σ 7) 7) (N' := rF s78 (rR σ 7) 7) (c := 0) (by first | assumption | omega | (simp only [rF_sT, rF_sA]; omega))) (Or.inr (Or.inl rfl))
        have Gu13 : Im (fz s78 = 0) (GS s78 (rR σ 7) g) := fun hf => GS.mv hp_2 (Gu2 (zc78 hf)) R78 (by first | assumption | omega | (simp only [rF_sT, rF_sA]; omega)) (by first | (exact Int.le_of_eq (Eq.symm (by assumption))) | omega | (simp only [rF_sT, rF_sA]; omega))
        have rNMp_78 := e78_0 rNMp_1; clear e78_0
        have TPRp_78 := e78_1 TPRp_1; clear e78_1
        have WNp_78 := e78_2 WNp_1; clear e78_2
        have PNp_78 := e78_3 PNp_1; clear e78_3
        have CCp_78 := e78_4 CCp_1; clear e78_4
        intro hr_; unfold rng at hr_
        refine ⟨(by (try simp only [rng, Ks78]); (all_goals (repeat' (first | with_reducible intro _ | with_reducible apply And.intro | with_reducible refine Exists.intro g ?_ | with_reducible refine Im.and ?_ ?_))); all_goals (first | assumption | trivial | ((with_reducible refine Im.i fun hf_ => ?_); first | exact (A78 hf_) | exact (Gu13 hf_) | exact (Ku12 hf_) | exact ok1.i | (exact LI.z (fun h => absurd h (by decide))) | (exact absurd hf_ (by omega)) | omega) | (unfold NBP; (try simp only [Ks78]); omega) | (unfold NBQ; (try simp only [Ks78]); omega) | omega | (have zz_ := fz_z (by assumption); omega) | (split <;> omega) | done)), ?_⟩
        refine ⟨g, ?_⟩
        refine ⟨(by (try simp only [pre_X14_readCond, reduceIte, and_true, true_and, and_false, false_and, and_self, Nat.reduceEqDiff, fz_sF29, rF_sF, rA_sF, rR_sF, tr_sF, rNMp_sF, PNp_sF, GS_F29, OP_F29, NR_F29, LI_F29, RG_l29, RG_r29, TPRp_sF29, WNp_sF29, VMp_sF29, KYp_sF29, PPp_sF29, WFp_sF29, CCp_sF29, rk_n0 hp_2, Ks78]); (all_goals (repeat' (first | with_reducible intro _ | with_reducible apply And.intro | with_reducible refine Exists.intro g ?_ | with_reducible refine Im.and ?_ ?_))); all_goals (first | assumption | trivial | ((with_reducible refine Im.i fun hf_ => ?_); first | exact (A78 hf_) | exact (Gu13 hf_) | exact (Ku12 hf_) | exact ok1.i | (exact LI.z (fun h => absurd h (by decide))) | (exact absurd hf_ (by omega)) | omega) | (unfold NBP; (try simp only [reduceIte, and_true, true_and, and_false, false_and, and_self, Nat.reduceEqDiff, fz_sF29, rF_sF, rA_sF, rR_sF, tr_sF, rNMp_sF, PNp_sF, GS_F29, OP_F29, NR_F29, LI_F29, RG_l29, RG_r29, TPRp_sF29, WNp_sF29, VMp_sF29, KYp_sF29, PPp_sF29, WFp_sF29, CCp_sF29, rk_n0 hp_2, Ks78]); omega) | (unfold NBQ; (try simp only [reduceIte, and_true, true_and, and_false, false_and, and_self, Nat.reduceEqDiff, fz_sF29, rF_sF, rA_sF, rR_sF, tr_sF, rNMp_sF, PNp_sF, GS_F29, OP_F29, NR_F29, LI_F29, RG_l29, RG_r29, TPRp_sF29, WNp_sF29, VMp_sF29, KYp_sF29, PPp_sF29, WFp_sF29, CCp_sF29, rk_n0 hp_2, Ks78]); omega) | omega | (have zz_ := fz_z (by assumption); omega) | (split <;> omega) | done)), ?_⟩
        refine ⟨(by (try simp only [rk_X14_readCond, reduceIte, and_true, true_and, and_false, false_and, and_self, Nat.reduceEqDiff, fz_sF29, rF_sF, rA_sF, rR_sF, tr_sF, rNMp_sF, PNp_sF, GS_F29, OP_F29, NR_F29, LI_F29, RG_l29, RG_r29, TPRp_sF29, WNp_sF29, VMp_sF29, KYp_sF29, PPp_sF29, WFp_sF29, CCp_sF29, rk_n0 hp_2, Ks78]); (all_goals (repeat' (first | with_reducible intro _ | with_reducible apply And.intro | with_reducible refine Exists.intro g ?_ | with_reducible refine Im.and ?_ ?_))); all_goals (first | assumption | trivial | ((with_reducible refine Im.i fun hf_ => ?_); first | exact (A78 hf_) | exact (Gu13 hf_) | exact (Ku12 hf_) | exact ok1.i | (exact LI.z (fun h => absurd h (by decide))) | (exact absurd hf_ (by omega)) | omega) | (unfold NBP; (try simp only [reduceIte, and_true, true_and, and_false, false_and, and_self, Nat.reduceEqDiff, fz_sF29, rF_sF, rA_sF, rR_sF, tr_sF, rNMp_sF, PNp_sF, GS_F29, OP_F29, NR_F29, LI_F29, RG_l29, RG_r29, TPRp_sF29, WNp_sF29, VMp_sF29, KYp_sF29, PPp_sF29, WFp_sF29, CCp_sF29, rk_n0 hp_2, Ks78]); omega) | (unfold NBQ; (try simp only [reduceIte, and_true, true_and, and_false, false_and, and_self, Nat.reduceEqDiff, fz_sF29, rF_sF, rA_sF, rR_sF, tr_sF, rNMp_sF, PNp_sF, GS_F29, OP_F29, NR_F29, LI_F29, RG_l29, RG_r29, TPRp_sF29, WNp_sF29, VMp_sF29, KYp_sF29, PPp_sF29, WFp_sF29, CCp_sF29, rk_n0 hp_2, Ks78]); omega) | omega | (have zz_ := fz_z (by assumption); omega) | (split <;> omega) | done)), ?_⟩
        intro v95 s95 hv95 Ws95 e95_0 e95_1 e95_2 e95_3 e95_4 e95_5 e95_6 e95_7 e95_8 e95_9 q95
        unfold rng at hv95
        unfold post_X14_readCond at q95
        obtain ⟨q95_1, q95_2, q95_3, q95_4, q95_5, q95_6, q95_7, q95_8, q95_9⟩ := q95
        (try simp only [reduceIte, and_true, true_and, and_false, false_and, and_self, Nat.reduceEqDiff, fz_sF29, rF_sF, rA_sF, rR_sF, tr_sF, rNMp_sF, PNp_sF, GS_F29, OP_F29, NR_F29, LI_F29, RG_l29, RG_r29, TPRp_sF29, WNp_sF29, VMp_sF29, KYp_sF29, PPp_sF29, WFp_sF29, CCp_sF29, rk_n0 hp_2, Ks78, NBP, NBQ] at q95_1 q95_2 q95_3 q95_4 q95_5 q95_6 q95_7 q95_8 q95_9 e95_0 e95_1 e95_2 e95_3 e95_4 e95_5 e95_6 e95_7 e95_8 e95_9)
        have Ks95 : rR s95 7 = rR σ 7 := by first | assumption | ((try simp only [rR_sF, rR_sA, rR_sT, rR_sL] at e95_0 e95_1 e95_2 e95_3 e95_4 e95_5 e95_6 e95_7 e95_8 e95_9); omega)
        have zr95 := fz_rng s95
        have zc95 : fz s95 = 0 → fz s78 = 0 := fun hf => by omega
        have A95 : Im (fz s95 = 0) (RG σ s95 (rR σ 7) 0) := fun hf => RG.trk hp_2 (A78 (zc95 hf)) (q95_8 (by omega)) (Or.inr (Or.inl rfl))
        obtain ⟨g95, X95⟩ := q95_9
        have Ku14 : Im (fz s95 = 0) (GK g g95 (rF σ (rR σ 7) 7) (rF s95 (rR σ 7) 7) 0) := fun hf => GK.trans (Ku12 (zc95 hf)) ((X95 hf).2.1) (Or.inr (Or.inl rfl))
        have Gu15 : Im (fz s95 = 0) (GS s95 (rR σ 7) g95) := fun hf => (X95 hf).1
        have r95 : Im (fz s95 = 0) _ := fun hf => (X95 hf).2.2.1
        have TPRp_95 := e95_0 TPRp_78; clear e95_0
        have CCp_95 := e95_1 CCp_78; clear e95_1
        refine ⟨(by (try simp only [pre_X14_node_t, Ks95]); (all_goals (repeat' (first | with_reducible intro _ | with_reducible apply And.intro | with_reducible refine Exists.intro g95 ?_ | with_reducible refine Im.and ?_ ?_))); all_goals (first | assumption | trivial | ((with_reducible refine Im.i fun hf_ => ?_); first | exact (A95 hf_) | exact (Gu15 hf_) | exact (Ku14 hf_) | exact (r95 hf_).cst | exact ok1.i | (exact LI.z (fun h => absurd h (by decide))) | (exact absurd hf_ (by omega)) | omega) | (unfold NBP; (try simp only [Ks95]); omega) | (unfold NBQ; (try simp only [Ks95]); omega) | omega | (have zz_ := fz_z (by assumption); omega) | (split <;> omega) | done)), ?_⟩
        intro v100 s100 hv100 Ws100 e100_0 e100_1 e100_2 e100_3 e100_4 e100_5 e100_6 e100_7 e100_8 e100_9 e100_10 e100_11 e100_12 e100_13 e100_14 e100_15 e100_16 e100_17 e100_18 e100_19 e100_20 e100_21 q100
        unfold rng at hv100
        unfold post_X14_node_t at q100
        obtain ⟨q100_1, q100_2, q100_3, q100_4, q100_5, q100_6, q100_7, q100_8, q100_9, q100_10⟩ := q100
        (try simp only [Ks95, NBP, NBQ] at q100_1 q100_2 q100_3 q100_4 q100_5 q100_6 q100_7 q100_8 q100_9 q100_10 e100_0 e100_1 e100_2 e100_3 e100_4 e100_5 e100_6 e100_7 e100_8 e100_9 e100_10 e100_11 e100_12 e100_13 e100_14 e100_15 e100_16 e100_17 e100_18 e100_19 e100_20 e100_21)
        have Ks100 : rR s100 7 = rR σ 7 := by first | assumption | ((try simp only [rR_sF, rR_sA, rR_sT, rR_sL] at e100_0 e100_1 e100_2 e100_3 e100_4 e100_5 e100_6 e100_7 e100_8 e100_9 e100_10 e100_11 e100_12 e100_13 e100_14 e100_15 e100_16 e100_17 e100_18 e100_19 e100_20 e100_21); omega)
        have zr100 := fz_rng s100
        have zc100 : fz s100 = 0 → fz s95 = 0 := fun hf => by omega
        have A100 : Im (fz s100 = 0) (RG σ s100 (rR σ 7) 0) := fun hf => RG.trk hp_2 (A95 (zc100 hf)) q100_3 (Or.inr (Or.inl rfl))
        obtain ⟨g100, X100⟩ := EV_59 (P := fz s100 = 0) ((rF s1 0 29) + 1) (rF σ 0 31) hp_2 (fun hf => Gu15 (zc100 hf)) (fun hf => r95 (zc100 hf)) (fun _ h => h) (fun hf => q100_3) q100_1 q100_2 q100_4 q100_5 q100_6 q100_9 (fun hf => by (try simp only [rF_sT, rF_sA]); (repeat' (with_reducible apply And.intro)) <;> first | trivial | omega)
        have Ku16 : Im (fz s100 = 0) (GK g g100 (rF σ (rR σ 7) 7) (rF s100 (rR σ 7) 7) 0) := fun hf => GK.kv (Ku14 (zc100 hf)) (X100 hf).2.1 (by omega)
        have Gu17 : Im (fz s100 = 0) _ := fun hf => (X100 hf).1
        have O100 : Im (fz s100 = 0) _ := fun hf => (X100 hf).2.2.1
        have L100_1 : Im (fz s100 = 0) _ := fun hf => (X100 hf).2.2.2.1
        have rNMp_100 := e100_0 q95_2; clear e100_0
        have TPRp_100 := e100_1 TPRp_95; clear e100_1
        have WNp_100 := e100_2 q95_3; clear e100_2
        have CCp_100 := e100_3 CCp_95; clear e100_3
        refine ⟨(by (try simp only [pre_X14_need, Ks100]); (all_goals (repeat' (first | with_reducible intro _ | with_reducible apply And.intro | with_reducible refine Exists.intro g100 ?_ | with_reducible refine Im.and ?_ ?_))); all_goals (first | assumption | trivial | ((with_reducible refine Im.i fun hf_ => ?_); first | exact (A100 hf_) | exact (Gu17 hf_) | exact (Ku16 hf_) | exact (O100 hf_).cst | exact (L100_1 hf_) | exact ok1.i | (exact LI.z (fun h => absurd h (by decide))) | (exact absurd hf_ (by omega)) | omega) | (unfold NBP; (try simp only [Ks100]); omega) | (unfold NBQ; (try simp only [Ks100]); omega) | omega | (have zz_ := fz_z (by assumption); omega) | (split <;> omega) | done)), ?_⟩
        intro s107 Ws107 e107_0 e107_1 e107_2 e107_3 e107_4 e107_5 e107_6 e107_7 e107_8 e107_9 e107_10 e107_11 e107_12 e107_13 e107_14 e107_15 e107_16 e107_17 e107_18 e107_19 e107_20 R107 q107
        have q107 := dig_need q107 (by (try simp only [Ks100]); omega)
        obtain ⟨q107_1, q107_2, q107_3, q107_4⟩ := q107
        (try simp only [Ks100, NBP, NBQ] at q107_1 q107_2 q107_3 q107_4 e107_0 e107_1 e107_2 e107_3 e107_4 e107_5 e107_6 e107_7 e107_8 e107_9 e107_10 e107_11 e107_12 e107_13 e107_14 e107_15 e107_16 e107_17 e107_18 e107_19 e107_20 R107)
        have Ks107 : rR s107 7 = rR σ 7 := by first | assumption | ((try simp only [rR_sF, rR_sA, rR_sT, rR_sL] at e107_0 e107_1 e107_2 e107_3 e107_4 e107_5 e107_6 e107_7 e107_8 e107_9 e107_10 e107_11 e107_12 e107_13 e107_14 e107_15 e107_16 e107_17 e107_18 e107_19 e107_20 R107); omega)
        have zr107 := fz_rng s107
        have zc107 : fz s107 = 0 → fz s100 = 0 := fun hf => by omega
        have A107 : Im (fz s107 = 0) (RG σ s107 (rR σ 7) 0) := fun hf => RG.trk hp_2 (A100 (zc107 hf)) R107 (Or.inr (Or.inl rfl))
        have O100u18 : Im (fz s107 = 0) _ := fun hf => OP.gk0 (O100 (zc107 hf)) (GK.up (g := g100) (N := rF s100 (rR σ 7) 7) (N' := rF s107 (rR σ 7) 7) (c := 0) (by first | assumption | omega | (simp only [rF_sT, rF_sA]; omega)))
        have L100_1u19 : Im (fz s107 = 0) _ := fun hf => LI.gk0 hp_2 (L100_1 (zc107 hf)) (O100 (zc107 hf)) R107 (GK.up (g := g100) (N := rF s100 (rR σ 7) 7) (N' := rF s107 (rR σ 7) 7) (c := 0) (by first | assumption | omega | (simp only [rF_sT, rF_sA]; omega)))
        have Ku20 : Im (fz s107 = 0) (GK g g100 (rF σ (rR σ 7) 7) (rF s107 (rR σ 7) 7) 0) := fun hf => GK.trans (Ku16 (zc107 hf)) (GK.up (N := rF s100 (rR σ 7) 7) (N' := rF s107 (rR σ 7) 7) (c := 0) (by first | assumption | omega | (simp only [rF_sT, rF_sA]; omega))) (Or.inr (Or.inl rfl))
        have Gu21 : Im (fz s107 = 0) (GS s107 (rR σ 7) g100) := fun hf => GS.mv hp_2 (Gu17 (zc107 hf)) R107 (by first | assumption | omega | (simp only [rF_sT, rF_sA]; omega)) (by first | (exact Int.le_of_eq (Eq.symm (by assumption))) | omega | (simp only [rF_sT, rF_sA]; omega))
        have rNMp_107 := e107_0 rNMp_100; clear e107_0
        have TPRp_107 := e107_1 TPRp_100; clear e107_1
        have WNp_107 := e107_2 WNp_100; clear e107_2
        have PNp_107 := e107_3 q100_10; clear e107_3
        have CCp_107 := e107_4 CCp_100; clear e107_4
        intro hr_; unfold rng at hr_
        refine ⟨(by (try simp only [rng, Ks107]); (all_goals (repeat' (first | with_reducible intro _ | with_reducible apply And.intro | with_reducible refine Exists.intro g100 ?_ | with_reducible refine Im.and ?_ ?_))); all_goals (first | assumption | trivial | ((with_reducible refine Im.i fun hf_ => ?_); first | exact (A107 hf_) | exact (Gu21 hf_) | exact (Ku20 hf_) | exact (O100u18 hf_).cst | exact (L100_1u19 hf_) | exact ok1.i | (exact LI.z (fun h => absurd h (by decide))) | (exact absurd hf_ (by omega)) | omega) | (unfold NBP; (try simp only [Ks107]); omega) | (unfold NBQ; (try simp only [Ks107]); omega) | omega | (have zz_ := fz_z (by assumption); omega) | (split <;> omega) | done)), ?_⟩
        obtain ⟨gu22, Xu23⟩ := EC_59 (P := fz s107 = 0) (rF s107 0 29) Gu21 O100u18 (fun hf => by omega)
        have O100u24 : Im (fz s107 = 0) _ := fun hf => (Xu23 hf).2.1
        have Ku25 : Im (fz s107 = 0) (GK g gu22 (rF σ (rR σ 7) 7) (rF s107 (rR σ 7) 7) 0) := fun hf => GK.kc (Ku20 hf) (Xu23 hf).2.2 (by omega)
        have Gu26 : Im (fz s107 = 0) _ := fun hf => (Xu23 hf).1
        exact (by (try simp only [post_X14_readNot, reduceIte, and_true, true_and, and_false, false_and, and_self, Nat.reduceEqDiff, fz_sF31, rF_sF, rA_sF, rR_sF, tr_sF, rNMp_sF, PNp_sF, GS_F31, OP_F31, NR_F31, LI_F31, RG_l31, RG_r31, TPRp_sF31, WNp_sF31, VMp_sF31, KYp_sF31, PPp_sF31, WFp_sF31, CCp_sF31, rk_n0 hp_2, Ks107]); (all_goals (repeat' (first | with_reducible intro _ | with_reducible apply And.intro | with_reducible refine Exists.intro gu22 ?_ | with_reducible refine Im.and ?_ ?_))); all_goals (first | assumption | trivial | ((with_reducible refine Im.i fun hf_ => ?_); first | exact (A107 hf_) | exact (Gu26 hf_) | exact (Ku25 hf_) | exact (O100u24 hf_).cst | exact ((O100u24 hf_).so so_16_15).cst | exact ((O100u24 hf_).so so_16_14).cst | exact ok1.i | (exact LI.z (fun h => absurd h (by decide))) | (exact absurd hf_ (by omega)) | omega) | (unfold NBP; (try simp only [reduceIte, and_true, true_and, and_false, false_and, and_self, Nat.reduceEqDiff, fz_sF31, rF_sF, rA_sF, rR_sF, tr_sF, rNMp_sF, PNp_sF, GS_F31, OP_F31, NR_F31, LI_F31, RG_l31, RG_r31, TPRp_sF31, WNp_sF31, VMp_sF31, KYp_sF31, PPp_sF31, WFp_sF31, CCp_sF31, rk_n0 hp_2, Ks107]); omega) | (unfold NBQ; (try simp only [reduceIte, and_true, true_and, and_false, false_and, and_self, Nat.reduceEqDiff, fz_sF31, rF_sF, rA_sF, rR_sF, tr_sF, rNMp_sF, PNp_sF, GS_F31, OP_F31, NR_F31, LI_F31, RG_l31, RG_r31, TPRp_sF31, WNp_sF31, VMp_sF31, KYp_sF31, PPp_sF31, WFp_sF31, CCp_sF31, rk_n0 hp_2, Ks107]); omega) | omega | (have zz_ := fz_z (by assumption); omega) | (split <;> omega) | done))
    · refine ⟨(by (try simp only [pre_X14_deeper, Ks1]); (all_goals (repeat' (first | with_reducible intro _ | with_reducible apply And.intro | with_reducible refine Exists.intro g ?_ | with_reducible refine Im.and ?_ ?_))); all_goals (first | assumption | trivial | ((with_reducible refine Im.i fun hf_ => ?_); first | exact (A1 hf_) | exact (Gu2 hf_) | exact (Ku1 hf_) | exact ok1.i | (exact LI.z (fun h => absurd h (by decide))) | (exact absurd hf_ (by omega)) | omega) | (unfold NBP; (try simp only [Ks1]); omega) | (unfold NBQ; (try simp only [Ks1]); omega) | omega | (have zz_ := fz_z (by assumption); omega) | (split <;> omega) | done)), ?_⟩
      intro s29 Ws29 e29_0 e29_1 e29_2 e29_3 e29_4 e29_5 e29_6 e29_7 e29_8 e29_9 e29_10 e29_11 e29_12 e29_13 e29_14 e29_15 e29_16 e29_17 e29_18 e29_19 e29_20 R29 q29
      have q29 := dig_deeper q29 (by (try simp only [Ks1]); omega)
      obtain ⟨q29_1, q29_2, q29_3⟩ := q29
      (try simp only [Ks1, NBP, NBQ] at q29_1 q29_2 q29_3 e29_0 e29_1 e29_2 e29_3 e29_4 e29_5 e29_6 e29_7 e29_8 e29_9 e29_10 e29_11 e29_12 e29_13 e29_14 e29_15 e29_16 e29_17 e29_18 e29_19 e29_20 R29)
      have Ks29 : rR s29 7 = rR σ 7 := by first | assumption | ((try simp only [rR_sF, rR_sA, rR_sT, rR_sL] at e29_0 e29_1 e29_2 e29_3 e29_4 e29_5 e29_6 e29_7 e29_8 e29_9 e29_10 e29_11 e29_12 e29_13 e29_14 e29_15 e29_16 e29_17 e29_18 e29_19 e29_20 R29); omega)
      have zr29 := fz_rng s29
      have zc29 : fz s29 = 0 → fz s1 = 0 := fun hf => by omega
      have A29 : Im (fz s29 = 0) (RG σ s29 (rR σ 7) 0) := fun hf => RG.trk hp_2 (A1 (zc29 hf)) R29 (Or.inr (Or.inl rfl))
      have Ku27 : Im (fz s29 = 0) (GK g g (rF σ (rR σ 7) 7) (rF s29 (rR σ 7) 7) 0) := fun hf => GK.trans (Ku1 (zc29 hf)) (GK.up (N := rF s1 (rR σ 7) 7) (N' := rF s29 (rR σ 7) 7) (c := 0) (by first | assumption | omega | (simp only [rF_sT, rF_sA]; omega))) (Or.inr (Or.inl rfl))
      have Gu28 : Im (fz s29 = 0) (GS s29 (rR σ 7) g) := fun hf => GS.mv hp_2 (Gu2 (zc29 hf)) R29 (by first | assumption | omega | (simp only [rF_sT, rF_sA]; omega)) (by first | (exact Int.le_of_eq (Eq.symm (by assumption))) | omega | (simp only [rF_sT, rF_sA]; omega))
      have rNMp_29 := e29_0 rNMp_1; clear e29_0
      have TPRp_29 := e29_1 TPRp_1; clear e29_1
      have WNp_29 := e29_2 WNp_1; clear e29_2
      have PNp_29 := e29_3 PNp_1; clear e29_3
      have CCp_29 := e29_4 CCp_1; clear e29_4
      intro hr_; unfold rng at hr_
      refine ⟨(by (try simp only [rng, Ks29]); (all_goals (repeat' (first | with_reducible intro _ | with_reducible apply And.intro | with_reducible refine Exists.intro g ?_ | with_reducible refine Im.and ?_ ?_))); all_goals (first | assumption | trivial | ((with_reducible refine Im.i fun hf_ => ?_); first | exact (A29 hf_) | exact (Gu28 hf_) | exact (Ku27 hf_) | exact ok1.i | (exact LI.z (fun h => absurd h (by decide))) | (exact absurd hf_ (by omega)) | omega) | (unfold NBP; (try simp only [Ks29]); omega) | (unfold NBQ; (try simp only [Ks29]); omega) | omega | (have zz_ := fz_z (by assumption); omega) | (split <;> omega) | done)), ?_⟩
      refine ⟨g, ?_⟩
      refine ⟨(by (try simp only [pre_X14_readNot, reduceIte, and_true, true_and, and_false, false_and, and_self, Nat.reduceEqDiff, fz_sF29, rF_sF, rA_sF, rR_sF, tr_sF, rNMp_sF, PNp_sF, GS_F29, OP_F29, NR_F29, LI_F29, RG_l29, RG_r29, TPRp_sF29, WNp_sF29, VMp_sF29, KYp_sF29, PPp_sF29, WFp_sF29, CCp_sF29, rk_n0 hp_2, Ks29]); (all_goals (repeat' (first | with_reducible intro _ | with_reducible apply And.intro | with_reducible refine Exists.intro g ?_ | with_reducible refine Im.and ?_ ?_))); all_goals (first | assumption | trivial | ((with_reducible refine Im.i fun hf_ => ?_); first | exact (A29 hf_) | exact (Gu28 hf_) | exact (Ku27 hf_) | exact ok1.i | (exact LI.z (fun h => absurd h (by decide))) | (exact absurd hf_ (by omega)) | omega) | (unfold NBP; (try simp only [reduceIte, and_true, true_and, and_false, false_and, and_self, Nat.reduceEqDiff, fz_sF29, rF_sF, rA_sF, rR_sF, tr_sF, rNMp_sF, PNp_sF, GS_F29, OP_F29, NR_F29, LI_F29, RG_l29, RG_r29, TPRp_sF29, WNp_sF29, VMp_sF29, KYp_sF29, PPp_sF29, WFp_sF29, CCp_sF29, rk_n0 hp_2, Ks29]); omega) | (unfold NBQ; (try simp only [reduceIte, and_true, true_and, and_false, false_and, and_self, Nat.reduceEqDiff, fz_sF29, rF_sF, rA_sF, rR_sF, tr_sF, rNMp_sF, PNp_sF, GS_F29, OP_F29, NR_F29, LI_F29, RG_l29, RG_r29, TPRp_sF29, WNp_sF29, VMp_sF29, KYp_sF29, PPp_sF29, WFp_sF29, CCp_sF29, rk_n0 hp_2, Ks29]); omega) | omega | (have zz_ := fz_z (by assumption); omega) | (split <;> omega) | done)), ?_⟩
      refine ⟨(by (try simp only [rk_X14_readNot, reduceIte, and_true, true_and, and_false, false_and, and_self, Nat.reduceEqDiff, fz_sF29, rF_sF, rA_sF, rR_sF, tr_sF, rNMp_sF, PNp_sF, GS_F29, OP_F29, NR_F29, LI_F29, RG_l29, RG_r29, TPRp_sF29, WNp_sF29, VMp_sF29, KYp_sF29, PPp_sF29, WFp_sF29, CCp_sF29, rk_n0 hp_2, Ks29]); (all_goals (repeat' (first | with_reducible intro _ | with_reducible apply And.intro | with_reducible refine Exists.intro g ?_ | with_reducible refine Im.and ?_ ?_))); all_goals (first | assumption | trivial | ((with_reducible refine Im.i fun hf_ => ?_); first | exact (A29 hf_) | exact (Gu28 hf_) | exact (Ku27 hf_) | exact ok1.i | (exact LI.z (fun h => absurd h (by decide))) | (exact absurd hf_ (by omega)) | omega) | (unfold NBP; (try simp only [reduceIte, and_true, true_and, and_false, false_and, and_self, Nat.reduceEqDiff, fz_sF29, rF_sF, rA_sF, rR_sF, tr_sF, rNMp_sF, PNp_sF, GS_F29, OP_F29, NR_F29, LI_F29, RG_l29, RG_r29, TPRp_sF29, WNp_sF29, VMp_sF29, KYp_sF29, PPp_sF29, WFp_sF29, CCp_sF29, rk_n0 hp_2, Ks29]); omega) | (unfold NBQ; (try simp only [reduceIte, and_true, true_and, and_false, false_and, and_self, Nat.reduceEqDiff, fz_sF29, rF_sF, rA_sF, rR_sF, tr_sF, rNMp_sF, PNp_sF, GS_F29, OP_F29, NR_F29, LI_F29, RG_l29, RG_r29, TPRp_sF29, WNp_sF29, VMp_sF29, KYp_sF29, PPp_sF29, WFp_sF29, CCp_sF29, rk_n0 hp_2, Ks29]); omega) | omega | (have zz_ := fz_z (by assumption); omega) | (split <;> omega) | done)), ?_⟩
      intro v46 s46 hv46 Ws46 e46_0 e46_1 e46_2 e46_3 e46_4 e46_5 e46_6 e46_7 e46_8 e46_9 q46
      unfold rng at hv46
      unfold post_X14_readNot at q46
      obtain ⟨q46_1, q46_2, q46_3, q46_4, q46_5, q46_6, q46_7, q46_8, q46_9⟩ := q46
      (try simp only [reduceIte, and_true, true_and, and_false, false_and, and_self, Nat.reduceEqDiff, fz_sF29, rF_sF, rA_sF, rR_sF, tr_sF, rNMp_sF, PNp_sF, GS_F29, OP_F29, NR_F29, LI_F29, RG_l29, RG_r29, TPRp_sF29, WNp_sF29, VMp_sF29, KYp_sF29, PPp_sF29, WFp_sF29, CCp_sF29, rk_n0 hp_2, Ks29, NBP, NBQ] at q46_1 q46_2 q46_3 q46_4 q46_5 q46_6 q46_7 q46_8 q46_9 e46_0 e46_1 e46_2 e46_3 e46_4 e46_5 e46_6 e46_7 e46_8 e46_9)
      have Ks46 : rR s46 7 = rR σ 7 := by first | assumption | ((try simp only [rR_sF, rR_sA, rR_sT, rR_sL] at e46_0 e46_1 e46_2 e46_3 e46_4 e46_5 e46_6 e46_7 e46_8 e46_9); omega)
      have zr46 := fz_rng s46
      have zc46 : fz s46 = 0 → fz s29 = 0 := fun hf => by omega
      have A46 : Im (fz s46 = 0) (RG σ s46 (rR σ 7) 0) := fun hf => RG.trk hp_2 (A29 (zc46 hf)) (q46_8 (by omega)) (Or.inr (Or.inl rfl))
      obtain ⟨g46, X46⟩ := q46_9
      have Ku29 : Im (fz s46 = 0) (GK g g46 (rF σ (rR σ 7) 7) (rF s46 (rR σ 7) 7) 0) := fun hf => GK.trans (Ku27 (zc46 hf)) ((X46 hf).2.1) (Or.inr (Or.inl rfl))
      have Gu30 : Im (fz s46 = 0) (GS s46 (rR σ 7) g46) := fun hf => (X46 hf).1
      have r46 : Im (fz s46 = 0) _ := fun hf => (X46 hf).2.2.1
      have TPRp_46 := e46_0 TPRp_29; clear e46_0
      have CCp_46 := e46_1 CCp_29; clear e46_1
      refine ⟨(by (try simp only [pre_X14_node_t, Ks46]); (all_goals (repeat' (first | with_reducible intro _ | with_reducible apply And.intro | with_reducible refine Exists.intro g46 ?_ | with_reducible refine Im.and ?_ ?_))); all_goals (first | assumption | trivial | ((with_reducible refine Im.i fun hf_ => ?_); first | exact (A46 hf_) | exact (Gu30 hf_) | exact (Ku29 hf_) | exact (r46 hf_).cst | exact ((r46 hf_).so so_16_15).cst | exact ((r46 hf_).so so_16_14).cst | exact ok1.i | (exact LI.z (fun h => absurd h (by decide))) | (exact absurd hf_ (by omega)) | omega) | (unfold NBP; (try simp only [Ks46]); omega) | (unfold NBQ; (try simp only [Ks46]); omega) | omega | (have zz_ := fz_z (by assumption); omega) | (split <;> omega) | done)), ?_⟩
      intro v51 s51 hv51 Ws51 e51_0 e51_1 e51_2 e51_3 e51_4 e51_5 e51_6 e51_7 e51_8 e51_9 e51_10 e51_11 e51_12 e51_13 e51_14 e51_15 e51_16 e51_17 e51_18 e51_19 e51_20 e51_21 q51
      unfold rng at hv51
      unfold post_X14_node_t at q51
      obtain ⟨q51_1, q51_2, q51_3, q51_4, q51_5, q51_6, q51_7, q51_8, q51_9, q51_10⟩ := q51
      (try simp only [Ks46, NBP, NBQ] at q51_1 q51_2 q51_3 q51_4 q51_5 q51_6 q51_7 q51_8 q51_9 q51_10 e51_0 e51_1 e51_2 e51_3 e51_4 e51_5 e51_6 e51_7 e51_8 e51_9 e51_10 e51_11 e51_12 e51_13 e51_14 e51_15 e51_16 e51_17 e51_18 e51_19 e51_20 e51_21)
      have Ks51 : rR s51 7 = rR σ 7 := by first | assumption | ((try simp only [rR_sF, rR_sA, rR_sT, rR_sL] at e51_0 e51_1 e51_2 e51_3 e51_4 e51_5 e51_6 e51_7 e51_8 e51_9 e51_10 e51_11 e51_12 e51_13 e51_14 e51_15 e51_16 e51_17 e51_18 e51_19 e51_20 e51_21); omega)
      have zr51 := fz_rng s51
      have zc51 : fz s51 = 0 → fz s46 = 0 := fun hf => by omega
      have A51 : Im (fz s51 = 0) (RG σ s51 (rR σ 7) 0) := fun hf => RG.trk hp_2 (A46 (zc51 hf)) q51_3 (Or.inr (Or.inl rfl))
      obtain ⟨g51, X51⟩ := EV_57 (P := fz s51 = 0) ((rF s1 0 29) + 1) (rF σ 0 31) hp_2 (fun hf => Gu30 (zc51 hf)) (fun hf => r46 (zc51 hf)) (fun _ h => h) (fun hf => q51_3) q51_1 q51_2 q51_4 q51_5 q51_6 q51_9 (fun hf => by (try simp only [rF_sT, rF_sA]); (repeat' (with_reducible apply And.intro)) <;> first | trivial | omega)
      have Ku31 : Im (fz s51 = 0) (GK g g51 (rF σ (rR σ 7) 7) (rF s51 (rR σ 7) 7) 0) := fun hf => GK.kv (Ku29 (zc51 hf)) (X51 hf).2.1 (by omega)
      have Gu32 : Im (fz s51 = 0) _ := fun hf => (X51 hf).1
      have O51 : Im (fz s51 = 0) _ := fun hf => (X51 hf).2.2.1
      have L51_1 : Im (fz s51 = 0) _ := fun hf => (X51 hf).2.2.2.1
      have rNMp_51 := e51_0 q46_2; clear e51_0
      have TPRp_51 := e51_1 TPRp_46; clear e51_1
      have WNp_51 := e51_2 q46_3; clear e51_2
      have CCp_51 := e51_3 CCp_46; clear e51_3
      intro hr_; unfold rng at hr_
      refine ⟨(by (try simp only [rng, Ks51]); (all_goals (repeat' (first | with_reducible intro _ | with_reducible apply And.intro | with_reducible refine Exists.intro g51 ?_ | with_reducible refine Im.and ?_ ?_))); all_goals (first | assumption | trivial | ((with_reducible refine Im.i fun hf_ => ?_); first | exact (A51 hf_) | exact (Gu32 hf_) | exact (Ku31 hf_) | exact (O51 hf_).cst | exact (L51_1 hf_) | exact ok1.i | (exact LI.z (fun h => absurd h (by decide))) | (exact absurd hf_ (by omega)) | omega) | (unfold NBP; (try simp only [Ks51]); omega) | (unfold NBQ; (try simp only [Ks51]); omega) | omega | (have zz_ := fz_z (by assumption); omega) | (split <;> omega) | done)), ?_⟩
      obtain ⟨gu33, Xu34⟩ := EC_57 (P := fz s51 = 0) (rF s46 0 29) Gu32 O51 (fun hf => by omega)
      have O51u35 : Im (fz s51 = 0) _ := fun hf => (Xu34 hf).2.1
      have Ku36 : Im (fz s51 = 0) (GK g gu33 (rF σ (rR σ 7) 7) (rF s51 (rR σ 7) 7) 0) := fun hf => GK.kc (Ku31 hf) (Xu34 hf).2.2 (by omega)
      have Gu37 : Im (fz s51 = 0) _ := fun hf => (Xu34 hf).1
      exact (by (try simp only [post_X14_readNot, reduceIte, and_true, true_and, and_false, false_and, and_self, Nat.reduceEqDiff, fz_sF31, rF_sF, rA_sF, rR_sF, tr_sF, rNMp_sF, PNp_sF, GS_F31, OP_F31, NR_F31, LI_F31, RG_l31, RG_r31, TPRp_sF31, WNp_sF31, VMp_sF31, KYp_sF31, PPp_sF31, WFp_sF31, CCp_sF31, rk_n0 hp_2, Ks51]); (all_goals (repeat' (first | with_reducible intro _ | with_reducible apply And.intro | with_reducible refine Exists.intro gu33 ?_ | with_reducible refine Im.and ?_ ?_))); all_goals (first | assumption | trivial | ((with_reducible refine Im.i fun hf_ => ?_); first | exact (A51 hf_) | exact (Gu37 hf_) | exact (Ku36 hf_) | exact (O51u35 hf_).cst | exact ((O51u35 hf_).so so_16_15).cst | exact ((O51u35 hf_).so so_16_14).cst | exact ok1.i | (exact LI.z (fun h => absurd h (by decide))) | (exact absurd hf_ (by omega)) | omega) | (unfold NBP; (try simp only [reduceIte, and_true, true_and, and_false, false_and, and_self, Nat.reduceEqDiff, fz_sF31, rF_sF, rA_sF, rR_sF, tr_sF, rNMp_sF, PNp_sF, GS_F31, OP_F31, NR_F31, LI_F31, RG_l31, RG_r31, TPRp_sF31, WNp_sF31, VMp_sF31, KYp_sF31, PPp_sF31, WFp_sF31, CCp_sF31, rk_n0 hp_2, Ks51]); omega) | (unfold NBQ; (try simp only [reduceIte, and_true, true_and, and_false, false_and, and_self, Nat.reduceEqDiff, fz_sF31, rF_sF, rA_sF, rR_sF, tr_sF, rNMp_sF, PNp_sF, GS_F31, OP_F31, NR_F31, LI_F31, RG_l31, RG_r31, TPRp_sF31, WNp_sF31, VMp_sF31, KYp_sF31, PPp_sF31, WFp_sF31, CCp_sF31, rk_n0 hp_2, Ks51]); omega) | omega | (have zz_ := fz_z (by assumption); omega) | (split <;> omega) | done))
  · have z8 := fz_n c8
    exact (by (try simp only [post_X14_readNot, Ks1]); (all_goals (repeat' (first | with_reducible intro _ | with_reducible apply And.intro | with_reducible refine Exists.intro g ?_ | with_reducible refine Im.and ?_ ?_))); all_goals (first | assumption | trivial | ((with_reducible refine Im.i fun hf_ => ?_); first | exact (A1 hf_) | exact (Gu2 hf_) | exact (Ku1 hf_) | exact ok1.i | (exact LI.z (fun h => absurd h (by decide))) | (exact absurd hf_ (by omega)) | omega) | (unfold NBP; (try simp only [Ks1]); omega) | (unfold NBQ; (try simp only [Ks1]); omega) | omega | (have zz_ := fz_z (by assumption); omega) | (split <;> omega) | done))
