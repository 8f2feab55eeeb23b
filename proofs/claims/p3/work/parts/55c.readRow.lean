set_option maxHeartbeats 20000000 in
theorem vX14_readRow (n : Nat) (σ : rS) (gg : Nat) (g : Nat → Int → Int) (hwf : rWF σ) (hp : pre_X14_readRow σ gg g) (hr : rk_X14_readRow σ gg g ≤ n + 1) : VC_X14_readRow n σ gg g (post_X14_readRow σ gg g) := by
  unfold pre_X14_readRow at hp
  obtain ⟨hp_1, hp_2, hp_3, hp_4, hp_5, hp_6, hp_7, hp_8, hp_9, hp_10⟩ := hp
  subst hp_1
  unfold rk_X14_readRow at hr
  have hN := hp_4
  unfold NBP at hN
  have hC := hp_3
  unfold CCp at hC
  obtain ⟨hC1, hC⟩ := hC
  have zr0 := fz_rng σ
  have hr2 : fz σ = 0 → 16 * (21 - rF σ 0 31).toNat + 4 ≤ n + 1 := fun h => by rw [if_pos h] at hr; exact hr
  have hr3 : 4 ≤ n + 1 := by have := hr; split at this <;> omega
  clear hr
  unfold VC_X14_readRow
  refine ⟨(by (all_goals (repeat' (first | with_reducible intro _ | with_reducible apply And.intro))); all_goals (first | assumption | trivial | (unfold NBP; omega) | (unfold NBQ; omega) | omega | (have zz_ := fz_z (by assumption); omega) | (split <;> omega) | done)), ?_⟩
  refine ⟨(by (try simp only [pre_X14_place]); (all_goals (repeat' (first | with_reducible intro _ | with_reducible apply And.intro | with_reducible refine Exists.intro g ?_ | with_reducible refine Im.and ?_ ?_))); all_goals (first | assumption | trivial | ((with_reducible refine Im.i fun hf_ => ?_); first | exact ((fun _ => RG.rf) hf_) | exact (hp_8 hf_) | exact ((fun _ => GK.rf) hf_) | exact ok1.i | (exact LI.z (fun h => absurd h (by decide))) | (exact absurd hf_ (by omega)) | omega) | (unfold NBP; omega) | (unfold NBQ; omega) | omega | (have zz_ := fz_z (by assumption); omega) | (split <;> omega) | done)), ?_⟩
  intro v6 hv6 q6
  unfold rng at hv6
  unfold post_X14_place at q6
  obtain ⟨q6_1, q6_2⟩ := q6
  (try simp only [NBP, NBQ] at q6_1 q6_2)
  refine ⟨(by (try simp only [pre_X14_node_t]); (all_goals (repeat' (first | with_reducible intro _ | with_reducible apply And.intro | with_reducible refine Exists.intro g ?_ | with_reducible refine Im.and ?_ ?_))); all_goals (first | assumption | trivial | ((with_reducible refine Im.i fun hf_ => ?_); first | exact ((fun _ => RG.rf) hf_) | exact (hp_8 hf_) | exact ((fun _ => GK.rf) hf_) | exact ok1.i | (exact LI.z (fun h => absurd h (by decide))) | (exact absurd hf_ (by omega)) | omega) | (unfold NBP; omega) | (unfold NBQ; omega) | omega | (have zz_ := fz_z (by assumption); omega) | (split <;> omega) | done)), ?_⟩
  intro v9 s9 hv9 Ws9 e9_0 e9_1 e9_2 e9_3 e9_4 e9_5 e9_6 e9_7 e9_8 e9_9 e9_10 e9_11 e9_12 e9_13 e9_14 e9_15 e9_16 e9_17 e9_18 e9_19 e9_20 e9_21 e9_22 q9
  unfold rng at hv9
  unfold post_X14_node_t at q9
  obtain ⟨q9_1, q9_2, q9_3, q9_4, q9_5, q9_6, q9_7, q9_8, q9_9⟩ := q9
  (try simp only [NBP, NBQ] at q9_1 q9_2 q9_3 q9_4 q9_5 q9_6 q9_7 q9_8 q9_9 e9_0 e9_1 e9_2 e9_3 e9_4 e9_5 e9_6 e9_7 e9_8 e9_9 e9_10 e9_11 e9_12 e9_13 e9_14 e9_15 e9_16 e9_17 e9_18 e9_19 e9_20 e9_21 e9_22)
  have Ks9 : rR s9 7 = rR σ 7 := by first | assumption | ((try simp only [rR_sF, rR_sA, rR_sT, rR_sL] at e9_0 e9_1 e9_2 e9_3 e9_4 e9_5 e9_6 e9_7 e9_8 e9_9 e9_10 e9_11 e9_12 e9_13 e9_14 e9_15 e9_16 e9_17 e9_18 e9_19 e9_20 e9_21 e9_22); omega)
  have zr9 := fz_rng s9
  have zc9 : fz s9 = 0 → fz σ = 0 := fun hf => by omega
  have A9 : Im (fz s9 = 0) (RG σ s9 (rR σ 7) 0) := fun hf => RG.trk hp_2 ((fun _ => RG.rf) (zc9 hf)) q9_3 (Or.inr (Or.inl rfl))
  obtain ⟨g9, X9⟩ := EN_34 (P := fz s9 = 0) (rF σ 0 29) (rF σ 0 31) hp_2 (fun hf => hp_8 (zc9 hf)) (fun hf => q9_3) q9_1 q9_2 q9_4 q9_5 q9_6 q9_9 (fun hf => by (try simp only [rF_sT, rF_sA]); (repeat' (with_reducible apply And.intro)) <;> first | trivial | omega)
  have Ku1 : Im (fz s9 = 0) (GK g g9 (rF σ (rR σ 7) 7) (rF s9 (rR σ 7) 7) 0) := fun hf => GK.gs ((fun _ => GK.rf) (zc9 hf)) (X9 hf).2.1
  have Gu2 : Im (fz s9 = 0) _ := fun hf => (X9 hf).1
  have O9 : Im (fz s9 = 0) _ := fun hf => (X9 hf).2.2.1
  have L9_1 : Im (fz s9 = 0) (LI s9 (rR σ 7) g9 v9 1 34 0) := fun hf => LI.z (fun h => (X9 hf).2.2.2)
  have rNMp_9 := e9_0 hp_5; clear e9_0
  have TPRp_9 := e9_1 hC1; clear e9_1
  have WNp_9 := e9_2 hp_6; clear e9_2
  have PNp_9 := e9_3 hp_7; clear e9_3
  have CCp_9 := e9_4 hp_3; clear e9_4
  intro hr_; unfold rng at hr_
  refine ⟨(by (try simp only [rng, Ks9]); (all_goals (repeat' (first | with_reducible intro _ | with_reducible apply And.intro | with_reducible refine Exists.intro g9 ?_ | with_reducible refine Im.and ?_ ?_))); all_goals (first | assumption | trivial | ((with_reducible refine Im.i fun hf_ => ?_); first | exact (A9 hf_) | exact (Gu2 hf_) | exact (Ku1 hf_) | exact (O9 hf_).cst | exact (L9_1 hf_) | exact ok1.i | (exact LI.z (fun h => absurd h (by decide))) | (exact absurd hf_ (by omega)) | omega) | (unfold NBP; (try simp only [Ks9]); omega) | (unfold NBQ; (try simp only [Ks9]); omega) | omega | (have zz_ := fz_z (by assumption); omega) | (split <;> omega) | done)), ?_⟩
  refine ⟨(by (try simp only [pre_X14_blanks, reduceIte, and_true, true_and, and_false, false_and, and_self, Nat.reduceEqDiff, fz_sF29, rF_sF, rA_sF, rR_sF, tr_sF, rNMp_sF, PNp_sF, GS_F29, OP_F29, NR_F29, LI_F29, RG_l29, RG_r29, TPRp_sF29, WNp_sF29, VMp_sF29, KYp_sF29, PPp_sF29, WFp_sF29, CCp_sF29, rk_n0 hp_2, Ks9]); (all_goals (repeat' (first | with_reducible intro _ | with_reducible apply And.intro | with_reducible refine Exists.intro g9 ?_ | with_reducible refine Im.and ?_ ?_))); all_goals (first | assumption | trivial | ((with_reducible refine Im.i fun hf_ => ?_); first | exact (A9 hf_) | exact (Gu2 hf_) | exact (Ku1 hf_) | exact (O9 hf_).cst | exact (L9_1 hf_) | exact ok1.i | (exact LI.z (fun h => absurd h (by decide))) | (exact absurd hf_ (by omega)) | omega) | (unfold NBP; (try simp only [reduceIte, and_true, true_and, and_false, false_and, and_self, Nat.reduceEqDiff, fz_sF29, rF_sF, rA_sF, rR_sF, tr_sF, rNMp_sF, PNp_sF, GS_F29, OP_F29, NR_F29, LI_F29, RG_l29, RG_r29, TPRp_sF29, WNp_sF29, VMp_sF29, KYp_sF29, PPp_sF29, WFp_sF29, CCp_sF29, rk_n0 hp_2, Ks9]); omega) | (unfold NBQ; (try simp only [reduceIte, and_true, true_and, and_false, false_and, and_self, Nat.reduceEqDiff, fz_sF29, rF_sF, rA_sF, rR_sF, tr_sF, rNMp_sF, PNp_sF, GS_F29, OP_F29, NR_F29, LI_F29, RG_l29, RG_r29, TPRp_sF29, WNp_sF29, VMp_sF29, KYp_sF29, PPp_sF29, WFp_sF29, CCp_sF29, rk_n0 hp_2, Ks9]); omega) | omega | (have zz_ := fz_z (by assumption); omega) | (split <;> omega) | done)), ?_⟩
  intro s24 Ws24 e24_0 e24_1 e24_2 e24_3 e24_4 e24_5 e24_6 e24_7 e24_8 e24_9 e24_10 e24_11 e24_12 e24_13 e24_14 e24_15 e24_16 e24_17 e24_18 e24_19 e24_20 e24_21 e24_22 R24 q24
  have q24 := dig_blanks q24 (by (try simp only [reduceIte, and_true, true_and, and_false, false_and, and_self, Nat.reduceEqDiff, fz_sF29, rF_sF, rA_sF, rR_sF, tr_sF, rNMp_sF, PNp_sF, GS_F29, OP_F29, NR_F29, LI_F29, RG_l29, RG_r29, TPRp_sF29, WNp_sF29, VMp_sF29, KYp_sF29, PPp_sF29, WFp_sF29, CCp_sF29, rk_n0 hp_2, Ks9]); omega)
  obtain ⟨q24_1, q24_2⟩ := q24
  (try simp only [reduceIte, and_true, true_and, and_false, false_and, and_self, Nat.reduceEqDiff, fz_sF29, rF_sF, rA_sF, rR_sF, tr_sF, rNMp_sF, PNp_sF, GS_F29, OP_F29, NR_F29, LI_F29, RG_l29, RG_r29, TPRp_sF29, WNp_sF29, VMp_sF29, KYp_sF29, PPp_sF29, WFp_sF29, CCp_sF29, rk_n0 hp_2, Ks9, NBP, NBQ] at q24_1 q24_2 e24_0 e24_1 e24_2 e24_3 e24_4 e24_5 e24_6 e24_7 e24_8 e24_9 e24_10 e24_11 e24_12 e24_13 e24_14 e24_15 e24_16 e24_17 e24_18 e24_19 e24_20 e24_21 e24_22 R24)
  have Ks24 : rR s24 7 = rR σ 7 := by first | assumption | ((try simp only [rR_sF, rR_sA, rR_sT, rR_sL] at e24_0 e24_1 e24_2 e24_3 e24_4 e24_5 e24_6 e24_7 e24_8 e24_9 e24_10 e24_11 e24_12 e24_13 e24_14 e24_15 e24_16 e24_17 e24_18 e24_19 e24_20 e24_21 e24_22 R24); omega)
  have zr24 := fz_rng s24
  have zc24 : fz s24 = 0 → fz s9 = 0 := fun hf => by omega
  have A24 : Im (fz s24 = 0) (RG σ s24 (rR σ 7) 0) := fun hf => RG.trk hp_2 (A9 (zc24 hf)) R24 (Or.inr (Or.inl rfl))
  have O9u3 : Im (fz s24 = 0) _ := fun hf => OP.gk0 (O9 (zc24 hf)) (GK.up (g := g9) (N := rF s9 (rR σ 7) 7) (N' := rF s24 (rR σ 7) 7) (c := 0) (by first | assumption | omega | (simp only [rF_sT, rF_sA]; omega)))
  have L9_1u4 : Im (fz s24 = 0) _ := fun hf => LI.gk0 hp_2 (L9_1 (zc24 hf)) (O9 (zc24 hf)) R24 (GK.up (g := g9) (N := rF s9 (rR σ 7) 7) (N' := rF s24 (rR σ 7) 7) (c := 0) (by first | assumption | omega | (simp only [rF_sT, rF_sA]; omega)))
  have Ku5 : Im (fz s24 = 0) (GK g g9 (rF σ (rR σ 7) 7) (rF s24 (rR σ 7) 7) 0) := fun hf => GK.trans (Ku1 (zc24 hf)) (GK.up (N := rF s9 (rR σ 7) 7) (N' := rF s24 (rR σ 7) 7) (c := 0) (by first | assumption | omega | (simp only [rF_sT, rF_sA]; omega))) (Or.inr (Or.inl rfl))
  have Gu6 : Im (fz s24 = 0) (GS s24 (rR σ 7) g9) := fun hf => GS.mv hp_2 (Gu2 (zc24 hf)) R24 (by first | assumption | omega | (simp only [rF_sT, rF_sA]; omega)) (by first | (exact Int.le_of_eq (Eq.symm (by assumption))) | omega | (simp only [rF_sT, rF_sA]; omega))
  have rNMp_24 := e24_0 rNMp_9; clear e24_0
  have TPRp_24 := e24_1 TPRp_9; clear e24_1
  have WNp_24 := e24_2 WNp_9; clear e24_2
  have PNp_24 := e24_3 PNp_9; clear e24_3
  have CCp_24 := e24_4 CCp_9; clear e24_4
  refine ⟨(by (try simp only [pre_X14_here, Ks24]); (all_goals (repeat' (first | with_reducible intro _ | with_reducible apply And.intro | with_reducible refine Exists.intro g9 ?_ | with_reducible refine Im.and ?_ ?_))); all_goals (first | assumption | trivial | ((with_reducible refine Im.i fun hf_ => ?_); first | exact (A24 hf_) | exact (Gu6 hf_) | exact (Ku5 hf_) | exact (O9u3 hf_).cst | exact (L9_1u4 hf_) | exact ok1.i | (exact LI.z (fun h => absurd h (by decide))) | (exact absurd hf_ (by omega)) | omega) | (unfold NBP; (try simp only [Ks24]); omega) | (unfold NBQ; (try simp only [Ks24]); omega) | omega | (have zz_ := fz_z (by assumption); omega) | (split <;> omega) | done)), ?_⟩
  intro v28 hv28 q28
  unfold rng at hv28
  unfold post_X14_here at q28
  obtain ⟨q28_1, q28_2⟩ := q28
  (try simp only [Ks24, NBP, NBQ] at q28_1 q28_2)
  refine ⟨fun c33 => ?_, fun c33 => ?_⟩
  · exact (by (try simp only [inv_X14_readRow_52, Ks24]); (all_goals (repeat' (first | with_reducible intro _ | with_reducible apply And.intro | with_reducible refine Exists.intro g9 ?_ | with_reducible refine Im.and ?_ ?_))); all_goals (first | assumption | trivial | ((with_reducible refine Im.i fun hf_ => ?_); first | exact (A24 hf_) | exact (Gu6 hf_) | exact (Ku5 hf_) | exact (O9u3 hf_).cst | exact (L9_1u4 hf_) | exact ok1.i | (exact LI.z (fun h => absurd h (by decide))) | (exact absurd hf_ (by omega)) | omega) | (unfold NBP; (try simp only [Ks24]); omega) | (unfold NBQ; (try simp only [Ks24]); omega) | omega | (have zz_ := fz_z (by assumption); omega) | (split <;> omega) | done))
  · intro hr_; unfold rng at hr_
    refine ⟨(by (try simp only [rng, Ks24]); (all_goals (repeat' (first | with_reducible intro _ | with_reducible apply And.intro | with_reducible refine Exists.intro g9 ?_ | with_reducible refine Im.and ?_ ?_))); all_goals (first | assumption | trivial | ((with_reducible refine Im.i fun hf_ => ?_); first | exact (A24 hf_) | exact (Gu6 hf_) | exact (Ku5 hf_) | exact (O9u3 hf_).cst | exact (L9_1u4 hf_) | exact ok1.i | (exact LI.z (fun h => absurd h (by decide))) | (exact absurd hf_ (by omega)) | omega) | (unfold NBP; (try simp only [Ks24]); omega) | (unfold NBQ; (try simp only [Ks24]); omega) | omega | (have zz_ := fz_z (by assumption); omega) | (split <;> omega) | done)), ?_⟩
    obtain ⟨gu135, Xu136⟩ := EC_34 (P := fz s24 = 0) ((rF s24 0 29) + 1) Gu6 O9u3 (fun hf => by omega)
    have O9u137 : Im (fz s24 = 0) _ := fun hf => (Xu136 hf).2.1
    have Ku138 : Im (fz s24 = 0) (GK g gu135 (rF σ (rR σ 7) 7) (rF s24 (rR σ 7) 7) 0) := fun hf => GK.kc (Ku5 hf) (Xu136 hf).2.2 (by omega)
    have Gu139 : Im (fz s24 = 0) _ := fun hf => (Xu136 hf).1
    exact (by (try simp only [post_X14_readRow, reduceIte, and_true, true_and, and_false, false_and, and_self, Nat.reduceEqDiff, fz_sF29, rF_sF, rA_sF, rR_sF, tr_sF, rNMp_sF, PNp_sF, GS_F29, OP_F29, NR_F29, LI_F29, RG_l29, RG_r29, TPRp_sF29, WNp_sF29, VMp_sF29, KYp_sF29, PPp_sF29, WFp_sF29, CCp_sF29, rk_n0 hp_2, Ks24]); (all_goals (repeat' (first | with_reducible intro _ | with_reducible apply And.intro | with_reducible refine Exists.intro gu135 ?_ | with_reducible refine Im.and ?_ ?_))); all_goals (first | assumption | trivial | ((with_reducible refine Im.i fun hf_ => ?_); first | exact (A24 hf_) | exact (Gu139 hf_) | exact (Ku138 hf_) | exact (O9u137 hf_).cst | exact ok1.i | (exact LI.z (fun h => absurd h (by decide))) | (exact absurd hf_ (by omega)) | omega) | (unfold NBP; (try simp only [reduceIte, and_true, true_and, and_false, false_and, and_self, Nat.reduceEqDiff, fz_sF29, rF_sF, rA_sF, rR_sF, tr_sF, rNMp_sF, PNp_sF, GS_F29, OP_F29, NR_F29, LI_F29, RG_l29, RG_r29, TPRp_sF29, WNp_sF29, VMp_sF29, KYp_sF29, PPp_sF29, WFp_sF29, CCp_sF29, rk_n0 hp_2, Ks24]); omega) | (unfold NBQ; (try simp only [reduceIte, and_true, true_and, and_false, false_and, and_self, Nat.reduceEqDiff, fz_sF29, rF_sF, rA_sF, rR_sF, tr_sF, rNMp_sF, PNp_sF, GS_F29, OP_F29, NR_F29, LI_F29, RG_l29, RG_r29, TPRp_sF29, WNp_sF29, VMp_sF29, KYp_sF29, PPp_sF29, WFp_sF29, CCp_sF29, rk_n0 hp_2, Ks24]); omega) | omega | (have zz_ := fz_z (by assumption); omega) | (split <;> omega) | done))
set_option maxHeartbeats 20000000 in
theorem vX14_readRow_52 (n : Nat) (σ : rS) (gg : Nat) (g : Nat → Int → Int) (hwf : rWF σ) (hp : pre_X14_readRow σ gg g) (hr : rk_X14_readRow σ gg g ≤ n + 1) : VC_X14_readRow_52 n σ gg g (post_X14_readRow σ gg g) := by
  unfold pre_X14_readRow at hp
  obtain ⟨hp_1, hp_2, hp_3, hp_4, hp_5, hp_6, hp_7, hp_8, hp_9, hp_10⟩ := hp
  subst hp_1
  unfold rk_X14_readRow at hr
  have hN := hp_4
  unfold NBP at hN
  have hC := hp_3
  unfold CCp at hC
  obtain ⟨hC1, hC⟩ := hC
  have zr0 := fz_rng σ
  have hr2 : fz σ = 0 → 16 * (21 - rF σ 0 31).toNat + 4 ≤ n + 1 := fun h => by rw [if_pos h] at hr; exact hr
  have hr3 : 4 ≤ n + 1 := by have := hr; split at this <;> omega
  clear hr
  unfold VC_X14_readRow_52
  intro s52 y52_1 y52_2 y52_3 Ws52 hy52_1 hy52_2 hy52_3 e52_0 e52_1 e52_2 e52_3 e52_4 e52_5 e52_6 e52_7 e52_8 e52_9 I52
  have Ks52 : rR s52 7 = rR σ 7 := by omega
  unfold inv_X14_readRow_52 at I52
  obtain ⟨I52_1, I52_2, I52_3, I52_4, I52_5, I52_6, I52_7, I52_8, I52_9, I52_10, I52_11, I52_12, I52_13, I52_14⟩ := I52
  (try simp only [Ks52, NBP, NBQ] at I52_1 I52_2 I52_3 I52_4 I52_5 I52_6 I52_7 I52_8 I52_9 I52_10 I52_11 I52_12 I52_13 I52_14)
  have zr52 := fz_rng s52
  have TPRp_52 := e52_0 hC1; clear e52_0
  have CCp_52 := e52_1 hp_3; clear e52_1
  obtain ⟨g52, X52⟩ := I52_14
  have G52 : Im (fz s52 = 0) _ := fun hf => (X52 hf).1
  have KA52 : Im (fz s52 = 0) _ := fun hf => (X52 hf).2.1
  have O52 : Im (fz s52 = 0) _ := fun hf => (X52 hf).2.2.1
  have L52 : Im (fz s52 = 0) _ := fun hf => (X52 hf).2.2.2.1
  refine ⟨fun c53 => ?_, fun c53 => ?_⟩
  · refine ⟨(by (try simp only [pre_X14_need, Ks52]); (all_goals (repeat' (first | with_reducible intro _ | with_reducible apply And.intro | with_reducible refine Exists.intro g52 ?_ | with_reducible refine Im.and ?_ ?_))); all_goals (first | assumption | trivial | ((with_reducible refine Im.i fun hf_ => ?_); first | exact (I52_13 hf_) | exact (G52 hf_) | exact (KA52 hf_) | exact (O52 hf_).cst | exact (L52 hf_) | exact ok1.i | (exact LI.z (fun h => absurd h (by decide))) | (exact absurd hf_ (by omega)) | omega) | (unfold NBP; (try simp only [Ks52]); omega) | (unfold NBQ; (try simp only [Ks52]); omega) | omega | (have zz_ := fz_z (by assumption); omega) | (split <;> omega) | done)), ?_⟩
    intro s174 Ws174 e174_0 e174_1 e174_2 e174_3 e174_4 e174_5 e174_6 e174_7 e174_8 e174_9 e174_10 e174_11 e174_12 e174_13 e174_14 e174_15 e174_16 e174_17 e174_18 e174_19 e174_20 R174 q174
    have q174 := dig_need q174 (by (try simp only [Ks52]); omega)
    obtain ⟨q174_1, q174_2, q174_3, q174_4⟩ := q174
    (try simp only [Ks52, NBP, NBQ] at q174_1 q174_2 q174_3 q174_4 e174_0 e174_1 e174_2 e174_3 e174_4 e174_5 e174_6 e174_7 e174_8 e174_9 e174_10 e174_11 e174_12 e174_13 e174_14 e174_15 e174_16 e174_17 e174_18 e174_19 e174_20 R174)
    have Ks174 : rR s174 7 = rR σ 7 := by first | assumption | ((try simp only [rR_sF, rR_sA, rR_sT, rR_sL] at e174_0 e174_1 e174_2 e174_3 e174_4 e174_5 e174_6 e174_7 e174_8 e174_9 e174_10 e174_11 e174_12 e174_13 e174_14 e174_15 e174_16 e174_17 e174_18 e174_19 e174_20 R174); omega)
    have zr174 := fz_rng s174
    have zc174 : fz s174 = 0 → fz s52 = 0 := fun hf => by omega
    have A174 : Im (fz s174 = 0) (RG σ s174 (rR σ 7) 0) := fun hf => RG.trk hp_2 (I52_13 (zc174 hf)) R174 (Or.inr (Or.inl rfl))
    have Ou7 : Im (fz s174 = 0) _ := fun hf => OP.gk0 (O52 (zc174 hf)) (GK.up (g := g52) (N := rF s52 (rR σ 7) 7) (N' := rF s174 (rR σ 7) 7) (c := 0) (by first | assumption | omega | (simp only [rF_sT, rF_sA]; omega)))
    have Lu8 : Im (fz s174 = 0) _ := fun hf => LI.gk0 hp_2 (L52 (zc174 hf)) (O52 (zc174 hf)) R174 (GK.up (g := g52) (N := rF s52 (rR σ 7) 7) (N' := rF s174 (rR σ 7) 7) (c := 0) (by first | assumption | omega | (simp only [rF_sT, rF_sA]; omega)))
    have Ku9 : Im (fz s174 = 0) (GK g g52 (rF σ (rR σ 7) 7) (rF s174 (rR σ 7) 7) 0) := fun hf => GK.trans (KA52 (zc174 hf)) (GK.up (N := rF s52 (rR σ 7) 7) (N' := rF s174 (rR σ 7) 7) (c := 0) (by first | assumption | omega | (simp only [rF_sT, rF_sA]; omega))) (Or.inr (Or.inl rfl))
    have Gu10 : Im (fz s174 = 0) (GS s174 (rR σ 7) g52) := fun hf => GS.mv hp_2 (G52 (zc174 hf)) R174 (by first | assumption | omega | (simp only [rF_sT, rF_sA]; omega)) (by first | (exact Int.le_of_eq (Eq.symm (by assumption))) | omega | (simp only [rF_sT, rF_sA]; omega))
    have rNMp_174 := e174_0 I52_2; clear e174_0
    have TPRp_174 := e174_1 TPRp_52; clear e174_1
    have WNp_174 := e174_2 I52_3; clear e174_2
    have PNp_174 := e174_3 I52_4; clear e174_3
    have CCp_174 := e174_4 CCp_52; clear e174_4
    obtain ⟨gu11, Xu12⟩ := EC_34 (P := fz s174 = 0) (rF s174 0 29) Gu10 Ou7 (fun hf => by omega)
    have Ou13 : Im (fz s174 = 0) _ := fun hf => (Xu12 hf).2.1
    have Ku14 : Im (fz s174 = 0) (GK g gu11 (rF σ (rR σ 7) 7) (rF s174 (rR σ 7) 7) 0) := fun hf => GK.kc (Ku9 hf) (Xu12 hf).2.2 (by omega)
    have Gu15 : Im (fz s174 = 0) _ := fun hf => (Xu12 hf).1
    exact (by (try simp only [post_X14_readRow, Ks174]); (all_goals (repeat' (first | with_reducible intro _ | with_reducible apply And.intro | with_reducible refine Exists.intro gu11 ?_ | with_reducible refine Im.and ?_ ?_))); all_goals (first | assumption | trivial | ((with_reducible refine Im.i fun hf_ => ?_); first | exact (A174 hf_) | exact (Gu15 hf_) | exact (Ku14 hf_) | exact (Ou13 hf_).cst | exact ok1.i | (exact LI.z (fun h => absurd h (by decide))) | (exact absurd hf_ (by omega)) | omega) | (unfold NBP; (try simp only [Ks174]); omega) | (unfold NBQ; (try simp only [Ks174]); omega) | omega | (have zz_ := fz_z (by assumption); omega) | (split <;> omega) | done))
  · intro hr_; unfold rng at hr_
    refine ⟨fun c60 => ?_, fun c60 => ?_⟩
    · have z60 := fz_n c60
      refine ⟨(by (try simp only [pre_X14_need, Ks52]); (all_goals (repeat' (first | with_reducible intro _ | with_reducible apply And.intro | with_reducible refine Exists.intro g52 ?_ | with_reducible refine Im.and ?_ ?_))); all_goals (first | assumption | trivial | ((with_reducible refine Im.i fun hf_ => ?_); first | exact (I52_13 hf_) | exact (G52 hf_) | exact (KA52 hf_) | exact (O52 hf_).cst | exact (L52 hf_) | exact ok1.i | (exact LI.z (fun h => absurd h (by decide))) | (exact absurd hf_ (by omega)) | omega) | (unfold NBP; (try simp only [Ks52]); omega) | (unfold NBQ; (try simp only [Ks52]); omega) | omega | (have zz_ := fz_z (by assumption); omega) | (split <;> omega) | done)), ?_⟩
      intro s174 Ws174 e174_0 e174_1 e174_2 e174_3 e174_4 e174_5 e174_6 e174_7 e174_8 e174_9 e174_10 e174_11 e174_12 e174_13 e174_14 e174_15 e174_16 e174_17 e174_18 e174_19 e174_20 R174 q174
      have q174 := dig_need q174 (by (try simp only [Ks52]); omega)
      obtain ⟨q174_1, q174_2, q174_3, q174_4⟩ := q174
      (try simp only [Ks52, NBP, NBQ] at q174_1 q174_2 q174_3 q174_4 e174_0 e174_1 e174_2 e174_3 e174_4 e174_5 e174_6 e174_7 e174_8 e174_9 e174_10 e174_11 e174_12 e174_13 e174_14 e174_15 e174_16 e174_17 e174_18 e174_19 e174_20 R174)
      have Ks174 : rR s174 7 = rR σ 7 := by first | assumption | ((try simp only [rR_sF, rR_sA, rR_sT, rR_sL] at e174_0 e174_1 e174_2 e174_3 e174_4 e174_5 e174_6 e174_7 e174_8 e174_9 e174_10 e174_11 e174_12 e174_13 e174_14 e174_15 e174_16 e174_17 e174_18 e174_19 e174_20 R174); omega)
      have zr174 := fz_rng s174
      have zc174 : fz s174 = 0 → fz s52 = 0 := fun hf => by omega
      have A174 : Im (fz s174 = 0) (RG σ s174 (rR σ 7) 0) := fun hf => RG.trk hp_2 (I52_13 (zc174 hf)) R174 (Or.inr (Or.inl rfl))
      have Ou16 : Im (fz s174 = 0) _ := fun hf => OP.gk0 (O52 (zc174 hf)) (GK.up (g := g52) (N := rF s52 (rR σ 7) 7) (N' := rF s174 (rR σ 7) 7) (c := 0) (by first | assumption | omega | (simp only [rF_sT, rF_sA]; omega)))
      have Lu17 : Im (fz s174 = 0) _ := fun hf => LI.gk0 hp_2 (L52 (zc174 hf)) (O52 (zc174 hf)) R174 (GK.up (g := g52) (N := rF s52 (rR σ 7) 7) (N' := rF s174 (rR σ 7) 7) (c := 0) (by first | assumption | omega | (simp only [rF_sT, rF_sA]; omega)))
      have Ku18 : Im (fz s174 = 0) (GK g g52 (rF σ (rR σ 7) 7) (rF s174 (rR σ 7) 7) 0) := fun hf => GK.trans (KA52 (zc174 hf)) (GK.up (N := rF s52 (rR σ 7) 7) (N' := rF s174 (rR σ 7) 7) (c := 0) (by first | assumption | omega | (simp only [rF_sT, rF_sA]; omega))) (Or.inr (Or.inl rfl))
      have Gu19 : Im (fz s174 = 0) (GS s174 (rR σ 7) g52) := fun hf => GS.mv hp_2 (G52 (zc174 hf)) R174 (by first | assumption | omega | (simp only [rF_sT, rF_sA]; omega)) (by first | (exact Int.le_of_eq (Eq.symm (by assumption))) | omega | (simp only [rF_sT, rF_sA]; omega))
      have rNMp_174 := e174_0 I52_2; clear e174_0
      have TPRp_174 := e174_1 TPRp_52; clear e174_1
      have WNp_174 := e174_2 I52_3; clear e174_2
      have PNp_174 := e174_3 I52_4; clear e174_3
      have CCp_174 := e174_4 CCp_52; clear e174_4
      obtain ⟨gu20, Xu21⟩ := EC_34 (P := fz s174 = 0) (rF s174 0 29) Gu19 Ou16 (fun hf => by omega)
      have Ou22 : Im (fz s174 = 0) _ := fun hf => (Xu21 hf).2.1
      have Ku23 : Im (fz s174 = 0) (GK g gu20 (rF σ (rR σ 7) 7) (rF s174 (rR σ 7) 7) 0) := fun hf => GK.kc (Ku18 hf) (Xu21 hf).2.2 (by omega)
      have Gu24 : Im (fz s174 = 0) _ := fun hf => (Xu21 hf).1
      exact (by (try simp only [post_X14_readRow, Ks174]); (all_goals (repeat' (first | with_reducible intro _ | with_reducible apply And.intro | with_reducible refine Exists.intro gu20 ?_ | with_reducible refine Im.and ?_ ?_))); all_goals (first | assumption | trivial | ((with_reducible refine Im.i fun hf_ => ?_); first | exact (A174 hf_) | exact (Gu24 hf_) | exact (Ku23 hf_) | exact (Ou22 hf_).cst | exact ok1.i | (exact LI.z (fun h => absurd h (by decide))) | (exact absurd hf_ (by omega)) | omega) | (unfold NBP; (try simp only [Ks174]); omega) | (unfold NBQ; (try simp only [Ks174]); omega) | omega | (have zz_ := fz_z (by assumption); omega) | (split <;> omega) | done))
    · have z60 := fz_z c60
      refine ⟨(by (try simp only [pre_X14_blanks, Ks52]); (all_goals (repeat' (first | with_reducible intro _ | with_reducible apply And.intro | with_reducible refine Exists.intro g52 ?_ | with_reducible refine Im.and ?_ ?_))); all_goals (first | assumption | trivial | ((with_reducible refine Im.i fun hf_ => ?_); first | exact (I52_13 hf_) | exact (G52 hf_) | exact (KA52 hf_) | exact (O52 hf_).cst | exact (L52 hf_) | exact ok1.i | (exact LI.z (fun h => absurd h (by decide))) | (exact absurd hf_ (by omega)) | omega) | (unfold NBP; (try simp only [Ks52]); omega) | (unfold NBQ; (try simp only [Ks52]); omega) | omega | (have zz_ := fz_z (by assumption); omega) | (split <;> omega) | done)), ?_⟩
      intro s64 Ws64 e64_0 e64_1 e64_2 e64_3 e64_4 e64_5 e64_6 e64_7 e64_8 e64_9 e64_10 e64_11 e64_12 e64_13 e64_14 e64_15 e64_16 e64_17 e64_18 e64_19 e64_20 e64_21 e64_22 R64 q64
      have q64 := dig_blanks q64 (by (try simp only [Ks52]); omega)
      obtain ⟨q64_1, q64_2⟩ := q64
      (try simp only [Ks52, NBP, NBQ] at q64_1 q64_2 e64_0 e64_1 e64_2 e64_3 e64_4 e64_5 e64_6 e64_7 e64_8 e64_9 e64_10 e64_11 e64_12 e64_13 e64_14 e64_15 e64_16 e64_17 e64_18 e64_19 e64_20 e64_21 e64_22 R64)
      have Ks64 : rR s64 7 = rR σ 7 := by first | assumption | ((try simp only [rR_sF, rR_sA, rR_sT, rR_sL] at e64_0 e64_1 e64_2 e64_3 e64_4 e64_5 e64_6 e64_7 e64_8 e64_9 e64_10 e64_11 e64_12 e64_13 e64_14 e64_15 e64_16 e64_17 e64_18 e64_19 e64_20 e64_21 e64_22 R64); omega)
      have zr64 := fz_rng s64
      have zc64 : fz s64 = 0 → fz s52 = 0 := fun hf => by omega
      have A64 : Im (fz s64 = 0) (RG σ s64 (rR σ 7) 0) := fun hf => RG.trk hp_2 (I52_13 (zc64 hf)) R64 (Or.inr (Or.inl rfl))
      have Ou25 : Im (fz s64 = 0) _ := fun hf => OP.gk0 (O52 (zc64 hf)) (GK.up (g := g52) (N := rF s52 (rR σ 7) 7) (N' := rF s64 (rR σ 7) 7) (c := 0) (by first | assumption | omega | (simp only [rF_sT, rF_sA]; omega)))
      have Lu26 : Im (fz s64 = 0) _ := fun hf => LI.gk0 hp_2 (L52 (zc64 hf)) (O52 (zc64 hf)) R64 (GK.up (g := g52) (N := rF s52 (rR σ 7) 7) (N' := rF s64 (rR σ 7) 7) (c := 0) (by first | assumption | omega | (simp only [rF_sT, rF_sA]; omega)))
      have Ku27 : Im (fz s64 = 0) (GK g g52 (rF σ (rR σ 7) 7) (rF s64 (rR σ 7) 7) 0) := fun hf => GK.trans (KA52 (zc64 hf)) (GK.up (N := rF s52 (rR σ 7) 7) (N' := rF s64 (rR σ 7) 7) (c := 0) (by first | assumption | omega | (simp only [rF_sT, rF_sA]; omega))) (Or.inr (Or.inl rfl))
      have Gu28 : Im (fz s64 = 0) (GS s64 (rR σ 7) g52) := fun hf => GS.mv hp_2 (G52 (zc64 hf)) R64 (by first | assumption | omega | (simp only [rF_sT, rF_sA]; omega)) (by first | (exact Int.le_of_eq (Eq.symm (by assumption))) | omega | (simp only [rF_sT, rF_sA]; omega))
      have rNMp_64 := e64_0 I52_2; clear e64_0
      have TPRp_64 := e64_1 TPRp_52; clear e64_1
      have WNp_64 := e64_2 I52_3; clear e64_2
      have PNp_64 := e64_3 I52_4; clear e64_3
      have CCp_64 := e64_4 CCp_52; clear e64_4
      refine ⟨(by (try simp only [pre_X14_here, Ks64]); (all_goals (repeat' (first | with_reducible intro _ | with_reducible apply And.intro | with_reducible refine Exists.intro g52 ?_ | with_reducible refine Im.and ?_ ?_))); all_goals (first | assumption | trivial | ((with_reducible refine Im.i fun hf_ => ?_); first | exact (A64 hf_) | exact (Gu28 hf_) | exact (Ku27 hf_) | exact (Ou25 hf_).cst | exact (Lu26 hf_) | exact ok1.i | (exact LI.z (fun h => absurd h (by decide))) | (exact absurd hf_ (by omega)) | omega) | (unfold NBP; (try simp only [Ks64]); omega) | (unfold NBQ; (try simp only [Ks64]); omega) | omega | (have zz_ := fz_z (by assumption); omega) | (split <;> omega) | done)), ?_⟩
      intro v71 hv71 q71
      unfold rng at hv71
      unfold post_X14_here at q71
      obtain ⟨q71_1, q71_2⟩ := q71
      (try simp only [Ks64, NBP, NBQ] at q71_1 q71_2)
      refine ⟨fun c76 => ?_, fun c76 => ?_⟩
      · refine ⟨(by (try simp only [pre_X14_node_t, Ks64]); (all_goals (repeat' (first | with_reducible intro _ | with_reducible apply And.intro | with_reducible refine Exists.intro g52 ?_ | with_reducible refine Im.and ?_ ?_))); all_goals (first | assumption | trivial | ((with_reducible refine Im.i fun hf_ => ?_); first | exact (A64 hf_) | exact (Gu28 hf_) | exact (Ku27 hf_) | exact (Ou25 hf_).cst | exact (Lu26 hf_) | exact ok1.i | (exact LI.z (fun h => absurd h (by decide))) | (exact absurd hf_ (by omega)) | omega) | (unfold NBP; (try simp only [Ks64]); omega) | (unfold NBQ; (try simp only [Ks64]); omega) | omega | (have zz_ := fz_z (by assumption); omega) | (split <;> omega) | done)), ?_⟩
        intro v98 s98 hv98 Ws98 e98_0 e98_1 e98_2 e98_3 e98_4 e98_5 e98_6 e98_7 e98_8 e98_9 e98_10 e98_11 e98_12 e98_13 e98_14 e98_15 e98_16 e98_17 e98_18 e98_19 e98_20 e98_21 e98_22 q98
        unfold rng at hv98
        unfold post_X14_node_t at q98
        obtain ⟨q98_1, q98_2, q98_3, q98_4, q98_5, q98_6, q98_7, q98_8, q98_9⟩ := q98
        (try simp only [Ks64, NBP, NBQ] at q98_1 q98_2 q98_3 q98_4 q98_5 q98_6 q98_7 q98_8 q98_9 e98_0 e98_1 e98_2 e98_3 e98_4 e98_5 e98_6 e98_7 e98_8 e98_9 e98_10 e98_11 e98_12 e98_13 e98_14 e98_15 e98_16 e98_17 e98_18 e98_19 e98_20 e98_21 e98_22)
        have Ks98 : rR s98 7 = rR σ 7 := by first | assumption | ((try simp only [rR_sF, rR_sA, rR_sT, rR_sL] at e98_0 e98_1 e98_2 e98_3 e98_4 e98_5 e98_6 e98_7 e98_8 e98_9 e98_10 e98_11 e98_12 e98_13 e98_14 e98_15 e98_16 e98_17 e98_18 e98_19 e98_20 e98_21 e98_22); omega)
        have zr98 := fz_rng s98
        have zc98 : fz s98 = 0 → fz s64 = 0 := fun hf => by omega
        have A98 : Im (fz s98 = 0) (RG σ s98 (rR σ 7) 0) := fun hf => RG.trk hp_2 (A64 (zc98 hf)) q98_3 (Or.inr (Or.inl rfl))
        obtain ⟨g98, X98⟩ := EN_60 (P := fz s98 = 0) (rF s64 0 29) (rF s52 0 31) hp_2 (fun hf => Gu28 (zc98 hf)) (fun hf => q98_3) q98_1 q98_2 q98_4 q98_5 q98_6 q98_9 (fun hf => by (try simp only [rF_sT, rF_sA]); (repeat' (with_reducible apply And.intro)) <;> first | trivial | omega)
        have Ou29 : Im (fz s98 = 0) _ := fun hf => OP.gk0 (Ou25 (zc98 hf)) (X98 hf).2.1
        have Lu30 : Im (fz s98 = 0) _ := fun hf => LI.gk0 hp_2 (Lu26 (zc98 hf)) (Ou25 (zc98 hf)) q98_3 (X98 hf).2.1
        have Ku31 : Im (fz s98 = 0) (GK g g98 (rF σ (rR σ 7) 7) (rF s98 (rR σ 7) 7) 0) := fun hf => GK.gs (Ku27 (zc98 hf)) (X98 hf).2.1
        have Gu32 : Im (fz s98 = 0) _ := fun hf => (X98 hf).1
        have O98 : Im (fz s98 = 0) _ := fun hf => (X98 hf).2.2.1
        have rNMp_98 := e98_0 rNMp_64; clear e98_0
        have TPRp_98 := e98_1 TPRp_64; clear e98_1
        have WNp_98 := e98_2 WNp_64; clear e98_2
        have PNp_98 := e98_3 PNp_64; clear e98_3
        have CCp_98 := e98_4 CCp_64; clear e98_4
        refine ⟨fun c104 => ?_, fun c104 => ?_⟩
        · refine ⟨(by (try simp only [Ks98]); (all_goals (repeat' (first | with_reducible intro _ | with_reducible apply And.intro | with_reducible refine Exists.intro g98 ?_ | with_reducible refine Im.and ?_ ?_))); all_goals (first | assumption | trivial | ((with_reducible refine Im.i fun hf_ => ?_); first | exact (A98 hf_) | exact (Gu32 hf_) | exact (Ku31 hf_) | exact (Ou29 hf_).cst | exact (Lu30 hf_) | exact (O98 hf_).cst | exact ok1.i | (exact LI.z (fun h => absurd h (by decide))) | (exact absurd hf_ (by omega)) | omega) | (unfold NBP; (try simp only [Ks98]); omega) | (unfold NBQ; (try simp only [Ks98]); omega) | omega | (have zz_ := fz_z (by assumption); omega) | (split <;> omega) | done)), ?_⟩
          obtain ⟨gu33, Xu34⟩ := EC_60 (P := fz s98 = 0) (rF s64 0 29) Gu32 O98 (fun hf => by omega)
          have Ou35 : Im (fz s98 = 0) _ := fun hf => OP.kc (Ou29 hf) (Xu34 hf).2.2 (by omega)
          have Lu36 : Im (fz s98 = 0) _ := fun hf => LI.kc (Lu30 hf) (Xu34 hf).2.2
          have O98u37 : Im (fz s98 = 0) _ := fun hf => (Xu34 hf).2.1
          have Ku38 : Im (fz s98 = 0) (GK g gu33 (rF σ (rR σ 7) 7) (rF s98 (rR σ 7) 7) 0) := fun hf => GK.kc (Ku31 hf) (Xu34 hf).2.2 (by omega)
          have Gu39 : Im (fz s98 = 0) _ := fun hf => (Xu34 hf).1
          have A131 : Im (fz s98 = 0) (RG σ (sT s98 (rR σ 7) 5 y52_2 v98) (rR σ 7) 0) := fun hf => RG.tst (f := 5) (i := y52_2) (x := v98) hp_2 (A98 hf) (by decide) (by omega)
          obtain ⟨gs131, Xs131⟩ := EA_1_34 (P := fz s98 = 0) hp_2 Gu39 Ou35 Lu36 O98u37 (fun _ h => h) (fun hf => by omega)
          have Ku40 : Im (fz s98 = 0) (GK g gs131 (rF σ (rR σ 7) 7) (rF s98 (rR σ 7) 7) 0) := fun hf => GK.ks (Ku38 hf) (Xs131 hf).2.2.2.1 (by omega) (by omega)
          have Gu41 : Im (fz s98 = 0) _ := fun hf => (Xs131 hf).1
          have Ou42 : Im (fz s98 = 0) _ := fun hf => (Xs131 hf).2.1
          have Lu43 : Im (fz s98 = 0) _ := fun hf => (Xs131 hf).2.2.1
          refine ⟨(by (try simp only [pre_X14_blanks, reduceIte, and_true, true_and, and_false, false_and, and_self, Nat.reduceEqDiff, fz_sA, rF_sA, rA_sA, rR_sA, rF_sT, rR_sT, sT_sF, fz_sT, rA_sT26 hp_2, rA_sT27 hp_2, rA_sT34 hp_2, rA_sT35 hp_2, rA_sT36 hp_2, rA_sT37 hp_2, rA_sT40 hp_2, TPRp_sT hp_2, WNp_sT hp_2, VMp_sT hp_2, KYp_sT hp_2, PPp_sT hp_2, WFp_sT hp_2, CCp_sT hp_2, rNMp_sT5, PNp_sT5, rk_n0 hp_2, Ks98]); (all_goals (repeat' (first | with_reducible intro _ | with_reducible apply And.intro | with_reducible refine Exists.intro gs131 ?_ | with_reducible refine Im.and ?_ ?_))); all_goals (first | assumption | trivial | ((with_reducible refine Im.i fun hf_ => ?_); first | exact (A131 hf_) | exact (Gu41 hf_) | exact (Ku40 hf_) | exact (Ou42 hf_).cst | exact (Lu43 hf_) | exact ok1.i | (exact LI.z (fun h => absurd h (by decide))) | (exact absurd hf_ (by omega)) | omega) | (unfold NBP; (try simp only [reduceIte, and_true, true_and, and_false, false_and, and_self, Nat.reduceEqDiff, fz_sA, rF_sA, rA_sA, rR_sA, rF_sT, rR_sT, sT_sF, fz_sT, rA_sT26 hp_2, rA_sT27 hp_2, rA_sT34 hp_2, rA_sT35 hp_2, rA_sT36 hp_2, rA_sT37 hp_2, rA_sT40 hp_2, TPRp_sT hp_2, WNp_sT hp_2, VMp_sT hp_2, KYp_sT hp_2, PPp_sT hp_2, WFp_sT hp_2, CCp_sT hp_2, rNMp_sT5, PNp_sT5, rk_n0 hp_2, Ks98]); omega) | (unfold NBQ; (try simp only [reduceIte, and_true, true_and, and_false, false_and, and_self, Nat.reduceEqDiff, fz_sA, rF_sA, rA_sA, rR_sA, rF_sT, rR_sT, sT_sF, fz_sT, rA_sT26 hp_2, rA_sT27 hp_2, rA_sT34 hp_2, rA_sT35 hp_2, rA_sT36 hp_2, rA_sT37 hp_2, rA_sT40 hp_2, TPRp_sT hp_2, WNp_sT hp_2, VMp_sT hp_2, KYp_sT hp_2, PPp_sT hp_2, WFp_sT hp_2, CCp_sT hp_2, rNMp_sT5, PNp_sT5, rk_n0 hp_2, Ks98]); omega) | omega | (have zz_ := fz_z (by assumption); omega) | (split <;> omega) | done)), ?_⟩
          intro s136 Ws136 e136_0 e136_1 e136_2 e136_3 e136_4 e136_5 e136_6 e136_7 e136_8 e136_9 e136_10 e136_11 e136_12 e136_13 e136_14 e136_15 e136_16 e136_17 e136_18 e136_19 e136_20 e136_21 e136_22 R136 q136
          have q136 := dig_blanks q136 (by (try simp only [reduceIte, and_true, true_and, and_false, false_and, and_self, Nat.reduceEqDiff, fz_sA, rF_sA, rA_sA, rR_sA, rF_sT, rR_sT, sT_sF, fz_sT, rA_sT26 hp_2, rA_sT27 hp_2, rA_sT34 hp_2, rA_sT35 hp_2, rA_sT36 hp_2, rA_sT37 hp_2, rA_sT40 hp_2, TPRp_sT hp_2, WNp_sT hp_2, VMp_sT hp_2, KYp_sT hp_2, PPp_sT hp_2, WFp_sT hp_2, CCp_sT hp_2, rNMp_sT5, PNp_sT5, rk_n0 hp_2, Ks98]); omega)
          obtain ⟨q136_1, q136_2⟩ := q136
          (try simp only [reduceIte, and_true, true_and, and_false, false_and, and_self, Nat.reduceEqDiff, fz_sA, rF_sA, rA_sA, rR_sA, rF_sT, rR_sT, sT_sF, fz_sT, rA_sT26 hp_2, rA_sT27 hp_2, rA_sT34 hp_2, rA_sT35 hp_2, rA_sT36 hp_2, rA_sT37 hp_2, rA_sT40 hp_2, TPRp_sT hp_2, WNp_sT hp_2, VMp_sT hp_2, KYp_sT hp_2, PPp_sT hp_2, WFp_sT hp_2, CCp_sT hp_2, rNMp_sT5, PNp_sT5, rk_n0 hp_2, Ks98, NBP, NBQ] at q136_1 q136_2 e136_0 e136_1 e136_2 e136_3 e136_4 e136_5 e136_6 e136_7 e136_8 e136_9 e136_10 e136_11 e136_12 e136_13 e136_14 e136_15 e136_16 e136_17 e136_18 e136_19 e136_20 e136_21 e136_22 R136)
          have Ks136 : rR s136 7 = rR σ 7 := by first | assumption | ((try simp only [rR_sF, rR_sA, rR_sT, rR_sL] at e136_0 e136_1 e136_2 e136_3 e136_4 e136_5 e136_6 e136_7 e136_8 e136_9 e136_10 e136_11 e136_12 e136_13 e136_14 e136_15 e136_16 e136_17 e136_18 e136_19 e136_20 e136_21 e136_22 R136); omega)
          have zr136 := fz_rng s136
          have zc136 : fz s136 = 0 → fz s98 = 0 := fun hf => by omega
          have A136 : Im (fz s136 = 0) (RG σ s136 (rR σ 7) 0) := fun hf => RG.trk hp_2 (A131 (zc136 hf)) R136 (Or.inr (Or.inl rfl))
          have Ou44 : Im (fz s136 = 0) _ := fun hf => OP.gk0 (Ou42 (zc136 hf)) (GK.up (g := gs131) (N := rF (sT s98 (rR σ 7) 5 y52_2 v98) (rR σ 7) 7) (N' := rF s136 (rR σ 7) 7) (c := 0) (by first | assumption | omega | (simp only [rF_sT, rF_sA]; omega)))
          have Lu45 : Im (fz s136 = 0) _ := fun hf => LI.gk0 hp_2 (Lu43 (zc136 hf)) (Ou42 (zc136 hf)) R136 (GK.up (g := gs131) (N := rF (sT s98 (rR σ 7) 5 y52_2 v98) (rR σ 7) 7) (N' := rF s136 (rR σ 7) 7) (c := 0) (by first | assumption | omega | (simp only [rF_sT, rF_sA]; omega)))
          have Ku46 : Im (fz s136 = 0) (GK g gs131 (rF σ (rR σ 7) 7) (rF s136 (rR σ 7) 7) 0) := fun hf => GK.trans (Ku40 (zc136 hf)) (GK.up (N := rF (sT s98 (rR σ 7) 5 y52_2 v98) (rR σ 7) 7) (N' := rF s136 (rR σ 7) 7) (c := 0) (by first | assumption | omega | (simp only [rF_sT, rF_sA]; omega))) (Or.inr (Or.inl rfl))
          have Gu47 : Im (fz s136 = 0) (GS s136 (rR σ 7) gs131) := fun hf => GS.mv hp_2 (Gu41 (zc136 hf)) R136 (by first | assumption | omega | (simp only [rF_sT, rF_sA]; omega)) (by first | (exact Int.le_of_eq (Eq.symm (by assumption))) | omega | (simp only [rF_sT, rF_sA]; omega))
          have rNMp_136 := e136_0 rNMp_98; clear e136_0
          have TPRp_136 := e136_1 TPRp_98; clear e136_1
          have WNp_136 := e136_2 WNp_98; clear e136_2
          have PNp_136 := e136_3 PNp_98; clear e136_3
          have CCp_136 := e136_4 CCp_98; clear e136_4
          refine ⟨(by (try simp only [pre_X14_here, Ks136]); (all_goals (repeat' (first | with_reducible intro _ | with_reducible apply And.intro | with_reducible refine Exists.intro gs131 ?_ | with_reducible refine Im.and ?_ ?_))); all_goals (first | assumption | trivial | ((with_reducible refine Im.i fun hf_ => ?_); first | exact (A136 hf_) | exact (Gu47 hf_) | exact (Ku46 hf_) | exact (Ou44 hf_).cst | exact (Lu45 hf_) | exact ok1.i | (exact LI.z (fun h => absurd h (by decide))) | (exact absurd hf_ (by omega)) | omega) | (unfold NBP; (try simp only [Ks136]); omega) | (unfold NBQ; (try simp only [Ks136]); omega) | omega | (have zz_ := fz_z (by assumption); omega) | (split <;> omega) | done)), ?_⟩
          intro v140 hv140 q140
          unfold rng at hv140
          unfold post_X14_here at q140
          obtain ⟨q140_1, q140_2⟩ := q140
          (try simp only [Ks136, NBP, NBQ] at q140_1 q140_2)
          refine ⟨fun c145 => ?_, fun c145 => ?_⟩
          · exact (by (try simp only [inv_X14_readRow_52, mu_X14_readRow_52, mu_X14_readRow_52, Ks136]); (all_goals (repeat' (first | with_reducible intro _ | with_reducible apply And.intro | with_reducible refine Exists.intro gs131 ?_ | with_reducible refine Im.and ?_ ?_))); all_goals (first | assumption | trivial | ((with_reducible refine Im.i fun hf_ => ?_); first | exact (A136 hf_) | exact (Gu47 hf_) | exact (Ku46 hf_) | exact (Ou44 hf_).cst | exact (Lu45 hf_) | exact ok1.i | (exact LI.z (fun h => absurd h (by decide))) | (exact absurd hf_ (by omega)) | omega) | (unfold NBP; (try simp only [Ks136]); omega) | (unfold NBQ; (try simp only [Ks136]); omega) | omega | (have zz_ := fz_z (by assumption); omega) | (split <;> omega) | done))
          · intro hr_; unfold rng at hr_
            refine ⟨(by (try simp only [rng, Ks136]); (all_goals (repeat' (first | with_reducible intro _ | with_reducible apply And.intro | with_reducible refine Exists.intro gs131 ?_ | with_reducible refine Im.and ?_ ?_))); all_goals (first | assumption | trivial | ((with_reducible refine Im.i fun hf_ => ?_); first | exact (A136 hf_) | exact (Gu47 hf_) | exact (Ku46 hf_) | exact (Ou44 hf_).cst | exact (Lu45 hf_) | exact ok1.i | (exact LI.z (fun h => absurd h (by decide))) | (exact absurd hf_ (by omega)) | omega) | (unfold NBP; (try simp only [Ks136]); omega) | (unfold NBQ; (try simp only [Ks136]); omega) | omega | (have zz_ := fz_z (by assumption); omega) | (split <;> omega) | done)), ?_⟩
            exact (by (try simp only [inv_X14_readRow_52, mu_X14_readRow_52, mu_X14_readRow_52, reduceIte, and_true, true_and, and_false, false_and, and_self, Nat.reduceEqDiff, fz_sF29, rF_sF, rA_sF, rR_sF, tr_sF, rNMp_sF, PNp_sF, GS_F29, OP_F29, NR_F29, LI_F29, RG_l29, RG_r29, TPRp_sF29, WNp_sF29, VMp_sF29, KYp_sF29, PPp_sF29, WFp_sF29, CCp_sF29, rk_n0 hp_2, Ks136]); (all_goals (repeat' (first | with_reducible intro _ | with_reducible apply And.intro | with_reducible refine Exists.intro gs131 ?_ | with_reducible refine Im.and ?_ ?_))); all_goals (first | assumption | trivial | ((with_reducible refine Im.i fun hf_ => ?_); first | exact (A136 hf_) | exact (Gu47 hf_) | exact (Ku46 hf_) | exact (Ou44 hf_).cst | exact (Lu45 hf_) | exact ok1.i | (exact LI.z (fun h => absurd h (by decide))) | (exact absurd hf_ (by omega)) | omega) | (unfold NBP; (try simp only [reduceIte, and_true, true_and, and_false, false_and, and_self, Nat.reduceEqDiff, fz_sF29, rF_sF, rA_sF, rR_sF, tr_sF, rNMp_sF, PNp_sF, GS_F29, OP_F29, NR_F29, LI_F29, RG_l29, RG_r29, TPRp_sF29, WNp_sF29, VMp_sF29, KYp_sF29, PPp_sF29, WFp_sF29, CCp_sF29, rk_n0 hp_2, Ks136]); omega) | (unfold NBQ; (try simp only [reduceIte, and_true, true_and, and_false, false_and, and_self, Nat.reduceEqDiff, fz_sF29, rF_sF, rA_sF, rR_sF, tr_sF, rNMp_sF, PNp_sF, GS_F29, OP_F29, NR_F29, LI_F29, RG_l29, RG_r29, TPRp_sF29, WNp_sF29, VMp_sF29, KYp_sF29, PPp_sF29, WFp_sF29, CCp_sF29, rk_n0 hp_2, Ks136]); omega) | omega | (have zz_ := fz_z (by assumption); omega) | (split <;> omega) | done))
        · refine ⟨(by (try simp only [Ks98]); (all_goals (repeat' (first | with_reducible intro _ | with_reducible apply And.intro | with_reducible refine Exists.intro g98 ?_ | with_reducible refine Im.and ?_ ?_))); all_goals (first | assumption | trivial | ((with_reducible refine Im.i fun hf_ => ?_); first | exact (A98 hf_) | exact (Gu32 hf_) | exact (Ku31 hf_) | exact (Ou29 hf_).cst | exact (Lu30 hf_) | exact (O98 hf_).cst | exact ok1.i | (exact LI.z (fun h => absurd h (by decide))) | (exact absurd hf_ (by omega)) | omega) | (unfold NBP; (try simp only [Ks98]); omega) | (unfold NBQ; (try simp only [Ks98]); omega) | omega | (have zz_ := fz_z (by assumption); omega) | (split <;> omega) | done)), ?_⟩
          obtain ⟨gu48, Xu49⟩ := EC_60 (P := fz s98 = 0) (rF s64 0 29) Gu32 O98 (fun hf => by omega)
          have Ou50 : Im (fz s98 = 0) _ := fun hf => OP.kc (Ou29 hf) (Xu49 hf).2.2 (by omega)
          have Lu51 : Im (fz s98 = 0) _ := fun hf => LI.kc (Lu30 hf) (Xu49 hf).2.2
          have O98u52 : Im (fz s98 = 0) _ := fun hf => (Xu49 hf).2.1
          have Ku53 : Im (fz s98 = 0) (GK g gu48 (rF σ (rR σ 7) 7) (rF s98 (rR σ 7) 7) 0) := fun hf => GK.kc (Ku31 hf) (Xu49 hf).2.2 (by omega)
          have Gu54 : Im (fz s98 = 0) _ := fun hf => (Xu49 hf).1
          have A117 : Im (fz s98 = 0) (RG σ (sT s98 (rR σ 7) 1 y52_1 v98) (rR σ 7) 0) := fun hf => RG.tst (f := 1) (i := y52_1) (x := v98) hp_2 (A98 hf) (by decide) (by omega)
          obtain ⟨gs117, Xs117⟩ := EH_1_34 (P := fz s98 = 0) hp_2 Gu54 Ou50 Lu51 O98u52 (fun _ h => h) (fun hf => by omega)
          have Ku55 : Im (fz s98 = 0) (GK g gs117 (rF σ (rR σ 7) 7) (rF s98 (rR σ 7) 7) 0) := fun hf => GK.ks (Ku53 hf) (Xs117 hf).2.2.2.1 (by omega) (by omega)
          have Gu56 : Im (fz s98 = 0) _ := fun hf => (Xs117 hf).1
          have Ou57 : Im (fz s98 = 0) _ := fun hf => (Xs117 hf).2.1
          have Lu58 : Im (fz s98 = 0) _ := fun hf => (Xs117 hf).2.2.1
          refine ⟨(by (try simp only [pre_X14_blanks, reduceIte, and_true, true_and, and_false, false_and, and_self, Nat.reduceEqDiff, fz_sA, rF_sA, rA_sA, rR_sA, rF_sT, rR_sT, sT_sF, fz_sT, rA_sT26 hp_2, rA_sT27 hp_2, rA_sT34 hp_2, rA_sT35 hp_2, rA_sT36 hp_2, rA_sT37 hp_2, rA_sT40 hp_2, TPRp_sT hp_2, WNp_sT hp_2, VMp_sT hp_2, KYp_sT hp_2, PPp_sT hp_2, WFp_sT hp_2, CCp_sT hp_2, rNMp_sT1, PNp_sT1, rk_n0 hp_2, Ks98]); (all_goals (repeat' (first | with_reducible intro _ | with_reducible apply And.intro | with_reducible refine Exists.intro gs117 ?_ | with_reducible refine Im.and ?_ ?_))); all_goals (first | assumption | trivial | ((with_reducible refine Im.i fun hf_ => ?_); first | exact (A117 hf_) | exact (Gu56 hf_) | exact (Ku55 hf_) | exact (Ou57 hf_).cst | exact (Lu58 hf_) | exact ok1.i | (exact LI.z (fun h => absurd h (by decide))) | (exact absurd hf_ (by omega)) | omega) | (unfold NBP; (try simp only [reduceIte, and_true, true_and, and_false, false_and, and_self, Nat.reduceEqDiff, fz_sA, rF_sA, rA_sA, rR_sA, rF_sT, rR_sT, sT_sF, fz_sT, rA_sT26 hp_2, rA_sT27 hp_2, rA_sT34 hp_2, rA_sT35 hp_2, rA_sT36 hp_2, rA_sT37 hp_2, rA_sT40 hp_2, TPRp_sT hp_2, WNp_sT hp_2, VMp_sT hp_2, KYp_sT hp_2, PPp_sT hp_2, WFp_sT hp_2, CCp_sT hp_2, rNMp_sT1, PNp_sT1, rk_n0 hp_2, Ks98]); omega) | (unfold NBQ; (try simp only [reduceIte, and_true, true_and, and_false, false_and, and_self, Nat.reduceEqDiff, fz_sA, rF_sA, rA_sA, rR_sA, rF_sT, rR_sT, sT_sF, fz_sT, rA_sT26 hp_2, rA_sT27 hp_2, rA_sT34 hp_2, rA_sT35 hp_2, rA_sT36 hp_2, rA_sT37 hp_2, rA_sT40 hp_2, TPRp_sT hp_2, WNp_sT hp_2, VMp_sT hp_2, KYp_sT hp_2, PPp_sT hp_2, WFp_sT hp_2, CCp_sT hp_2, rNMp_sT1, PNp_sT1, rk_n0 hp_2, Ks98]); omega) | omega | (have zz_ := fz_z (by assumption); omega) | (split <;> omega) | done)), ?_⟩
          intro s136 Ws136 e136_0 e136_1 e136_2 e136_3 e136_4 e136_5 e136_6 e136_7 e136_8 e136_9 e136_10 e136_11 e136_12 e136_13 e136_14 e136_15 e136_16 e136_17 e136_18 e136_19 e136_20 e136_21 e136_22 R136 q136
          have q136 := dig_blanks q136 (by (try simp only [reduceIte, and_true, true_and, and_false, false_and, and_self, Nat.reduceEqDiff, fz_sA, rF_sA, rA_sA, rR_sA, rF_sT, rR_sT, sT_sF, fz_sT, rA_sT26 hp_2, rA_sT27 hp_2, rA_sT34 hp_2, rA_sT35 hp_2, rA_sT36 hp_2, rA_sT37 hp_2, rA_sT40 hp_2, TPRp_sT hp_2, WNp_sT hp_2, VMp_sT hp_2, KYp_sT hp_2, PPp_sT hp_2, WFp_sT hp_2, CCp_sT hp_2, rNMp_sT1, PNp_sT1, rk_n0 hp_2, Ks98]); omega)
          obtain ⟨q136_1, q136_2⟩ := q136
          (try simp only [reduceIte, and_true, true_and, and_false, false_and, and_self, Nat.reduceEqDiff, fz_sA, rF_sA, rA_sA, rR_sA, rF_sT, rR_sT, sT_sF, fz_sT, rA_sT26 hp_2, rA_sT27 hp_2, rA_sT34 hp_2, rA_sT35 hp_2, rA_sT36 hp_2, rA_sT37 hp_2, rA_sT40 hp_2, TPRp_sT hp_2, WNp_sT hp_2, VMp_sT hp_2, KYp_sT hp_2, PPp_sT hp_2, WFp_sT hp_2, CCp_sT hp_2, rNMp_sT1, PNp_sT1, rk_n0 hp_2, Ks98, NBP, NBQ] at q136_1 q136_2 e136_0 e136_1 e136_2 e136_3 e136_4 e136_5 e136_6 e136_7 e136_8 e136_9 e136_10 e136_11 e136_12 e136_13 e136_14 e136_15 e136_16 e136_17 e136_18 e136_19 e136_20 e136_21 e136_22 R136)
          have Ks136 : rR s136 7 = rR σ 7 := by first | assumption | ((try simp only [rR_sF, rR_sA, rR_sT, rR_sL] at e136_0 e136_1 e136_2 e136_3 e136_4 e136_5 e136_6 e136_7 e136_8 e136_9 e136_10 e136_11 e136_12 e136_13 e136_14 e136_15 e136_16 e136_17 e136_18 e136_19 e136_20 e136_21 e136_22 R136); omega)
          have zr136 := fz_rng s136
          have zc136 : fz s136 = 0 → fz s98 = 0 := fun hf => by omega
          have A136 : Im (fz s136 = 0) (RG σ s136 (rR σ 7) 0) := fun hf => RG.trk hp_2 (A117 (zc136 hf)) R136 (Or.inr (Or.inl rfl))
          have Ou59 : Im (fz s136 = 0) _ := fun hf => OP.gk0 (Ou57 (zc136 hf)) (GK.up (g := gs117) (N := rF (sT s98 (rR σ 7) 1 y52_1 v98) (rR σ 7) 7) (N' := rF s136 (rR σ 7) 7) (c := 0) (by first | assumption | omega | (simp only [rF_sT, rF_sA]; omega)))
          have Lu60 : Im (fz s136 = 0) _ := fun hf => LI.gk0 hp_2 (Lu58 (zc136 hf)) (Ou57 (zc136 hf)) R136 (GK.up (g := gs117) (N := rF (sT s98 (rR σ 7) 1 y52_1 v98) (rR σ 7) 7) (N' := rF s136 (rR σ 7) 7) (c := 0) (by first | assumption | omega | (simp only [rF_sT, rF_sA]; omega)))
          have Ku61 : Im (fz s136 = 0) (GK g gs117 (rF σ (rR σ 7) 7) (rF s136 (rR σ 7) 7) 0) := fun hf => GK.trans (Ku55 (zc136 hf)) (GK.up (N := rF (sT s98 (rR σ 7) 1 y52_1 v98) (rR σ 7) 7) (N' := rF s136 (rR σ 7) 7) (c := 0) (by first | assumption | omega | (simp only [rF_sT, rF_sA]; omega))) (Or.inr (Or.inl rfl))
          have Gu62 : Im (fz s136 = 0) (GS s136 (rR σ 7) gs117) := fun hf => GS.mv hp_2 (Gu56 (zc136 hf)) R136 (by first | assumption | omega | (simp only [rF_sT, rF_sA]; omega)) (by first | (exact Int.le_of_eq (Eq.symm (by assumption))) | omega | (simp only [rF_sT, rF_sA]; omega))
          have rNMp_136 := e136_0 rNMp_98; clear e136_0
          have TPRp_136 := e136_1 TPRp_98; clear e136_1
          have WNp_136 := e136_2 WNp_98; clear e136_2
          have PNp_136 := e136_3 PNp_98; clear e136_3
          have CCp_136 := e136_4 CCp_98; clear e136_4
          refine ⟨(by (try simp only [pre_X14_here, Ks136]); (all_goals (repeat' (first | with_reducible intro _ | with_reducible apply And.intro | with_reducible refine Exists.intro gs117 ?_ | with_reducible refine Im.and ?_ ?_))); all_goals (first | assumption | trivial | ((with_reducible refine Im.i fun hf_ => ?_); first | exact (A136 hf_) | exact (Gu62 hf_) | exact (Ku61 hf_) | exact (Ou59 hf_).cst | exact (Lu60 hf_) | exact ok1.i | (exact LI.z (fun h => absurd h (by decide))) | (exact absurd hf_ (by omega)) | omega) | (unfold NBP; (try simp only [Ks136]); omega) | (unfold NBQ; (try simp only [Ks136]); omega) | omega | (have zz_ := fz_z (by assumption); omega) | (split <;> omega) | done)), ?_⟩
          intro v140 hv140 q140
          unfold rng at hv140
          unfold post_X14_here at q140
          obtain ⟨q140_1, q140_2⟩ := q140
          (try simp only [Ks136, NBP, NBQ] at q140_1 q140_2)
          refine ⟨fun c145 => ?_, fun c145 => ?_⟩
          · exact (by (try simp only [inv_X14_readRow_52, mu_X14_readRow_52, mu_X14_readRow_52, Ks136]); (all_goals (repeat' (first | with_reducible intro _ | with_reducible apply And.intro | with_reducible refine Exists.intro gs117 ?_ | with_reducible refine Im.and ?_ ?_))); all_goals (first | assumption | trivial | ((with_reducible refine Im.i fun hf_ => ?_); first | exact (A136 hf_) | exact (Gu62 hf_) | exact (Ku61 hf_) | exact (Ou59 hf_).cst | exact (Lu60 hf_) | exact ok1.i | (exact LI.z (fun h => absurd h (by decide))) | (exact absurd hf_ (by omega)) | omega) | (unfold NBP; (try simp only [Ks136]); omega) | (unfold NBQ; (try simp only [Ks136]); omega) | omega | (have zz_ := fz_z (by assumption); omega) | (split <;> omega) | done))
          · intro hr_; unfold rng at hr_
            refine ⟨(by (try simp only [rng, Ks136]); (all_goals (repeat' (first | with_reducible intro _ | with_reducible apply And.intro | with_reducible refine Exists.intro gs117 ?_ | with_reducible refine Im.and ?_ ?_))); all_goals (first | assumption | trivial | ((with_reducible refine Im.i fun hf_ => ?_); first | exact (A136 hf_) | exact (Gu62 hf_) | exact (Ku61 hf_) | exact (Ou59 hf_).cst | exact (Lu60 hf_) | exact ok1.i | (exact LI.z (fun h => absurd h (by decide))) | (exact absurd hf_ (by omega)) | omega) | (unfold NBP; (try simp only [Ks136]); omega) | (unfold NBQ; (try simp only [Ks136]); omega) | omega | (have zz_ := fz_z (by assumption); omega) | (split <;> omega) | done)), ?_⟩
            exact (by (try simp only [inv_X14_readRow_52, mu_X14_readRow_52, mu_X14_readRow_52, reduceIte, and_true, true_and, and_false, false_and, and_self, Nat.reduceEqDiff, fz_sF29, rF_sF, rA_sF, rR_sF, tr_sF, rNMp_sF, PNp_sF, GS_F29, OP_F29, NR_F29, LI_F29, RG_l29, RG_r29, TPRp_sF29, WNp_sF29, VMp_sF29, KYp_sF29, PPp_sF29, WFp_sF29, CCp_sF29, rk_n0 hp_2, Ks136]); (all_goals (repeat' (first | with_reducible intro _ | with_reducible apply And.intro | with_reducible refine Exists.intro gs117 ?_ | with_reducible refine Im.and ?_ ?_))); all_goals (first | assumption | trivial | ((with_reducible refine Im.i fun hf_ => ?_); first | exact (A136 hf_) | exact (Gu62 hf_) | exact (Ku61 hf_) | exact (Ou59 hf_).cst | exact (Lu60 hf_) | exact ok1.i | (exact LI.z (fun h => absurd h (by decide))) | (exact absurd hf_ (by omega)) | omega) | (unfold NBP; (try simp only [reduceIte, and_true, true_and, and_false, false_and, and_self, Nat.reduceEqDiff, fz_sF29, rF_sF, rA_sF, rR_sF, tr_sF, rNMp_sF, PNp_sF, GS_F29, OP_F29, NR_F29, LI_F29, RG_l29, RG_r29, TPRp_sF29, WNp_sF29, VMp_sF29, KYp_sF29, PPp_sF29, WFp_sF29, CCp_sF29, rk_n0 hp_2, Ks136]); omega) | (unfold NBQ; (try simp only [reduceIte, and_true, true_and, and_false, false_and, and_self, Nat.reduceEqDiff, fz_sF29, rF_sF, rA_sF, rR_sF, tr_sF, rNMp_sF, PNp_sF, GS_F29, OP_F29, NR_F29, LI_F29, RG_l29, RG_r29, TPRp_sF29, WNp_sF29, VMp_sF29, KYp_sF29, PPp_sF29, WFp_sF29, CCp_sF29, rk_n0 hp_2, Ks136]); omega) | omega | (have zz_ := fz_z (by assumption); omega) | (split <;> omega) | done))
      · refine ⟨(by (try simp only [pre_X14_here, Ks64]); (all_goals (repeat' (first | with_reducible intro _ | with_reducible apply And.intro | with_reducible refine Exists.intro g52 ?_ | with_reducible refine Im.and ?_ ?_))); all_goals (first | assumption | trivial | ((with_reducible refine Im.i fun hf_ => ?_); first | exact (A64 hf_) | exact (Gu28 hf_) | exact (Ku27 hf_) | exact (Ou25 hf_).cst | exact (Lu26 hf_) | exact ok1.i | (exact LI.z (fun h => absurd h (by decide))) | (exact absurd hf_ (by omega)) | omega) | (unfold NBP; (try simp only [Ks64]); omega) | (unfold NBQ; (try simp only [Ks64]); omega) | omega | (have zz_ := fz_z (by assumption); omega) | (split <;> omega) | done)), ?_⟩
        intro v80 hv80 q80
        unfold rng at hv80
        unfold post_X14_here at q80
        obtain ⟨q80_1, q80_2⟩ := q80
        (try simp only [Ks64, NBP, NBQ] at q80_1 q80_2)
        refine ⟨fun c85 => ?_, fun c85 => ?_⟩
        · refine ⟨g52, ?_⟩
          refine ⟨(by (try simp only [pre_X14_readArg, Ks64]); (all_goals (repeat' (first | with_reducible intro _ | with_reducible apply And.intro | with_reducible refine Exists.intro g52 ?_ | with_reducible refine Im.and ?_ ?_))); all_goals (first | assumption | trivial | ((with_reducible refine Im.i fun hf_ => ?_); first | exact (A64 hf_) | exact (Gu28 hf_) | exact (Ku27 hf_) | exact (Ou25 hf_).cst | exact (Lu26 hf_) | exact ok1.i | (exact LI.z (fun h => absurd h (by decide))) | (exact absurd hf_ (by omega)) | omega) | (unfold NBP; (try simp only [Ks64]); omega) | (unfold NBQ; (try simp only [Ks64]); omega) | omega | (have zz_ := fz_z (by assumption); omega) | (split <;> omega) | done)), ?_⟩
          refine ⟨(by (try simp only [rk_X14_readArg, Ks64]); (all_goals (repeat' (first | with_reducible intro _ | with_reducible apply And.intro | with_reducible refine Exists.intro g52 ?_ | with_reducible refine Im.and ?_ ?_))); all_goals (first | assumption | trivial | ((with_reducible refine Im.i fun hf_ => ?_); first | exact (A64 hf_) | exact (Gu28 hf_) | exact (Ku27 hf_) | exact (Ou25 hf_).cst | exact (Lu26 hf_) | exact ok1.i | (exact LI.z (fun h => absurd h (by decide))) | (exact absurd hf_ (by omega)) | omega) | (unfold NBP; (try simp only [Ks64]); omega) | (unfold NBQ; (try simp only [Ks64]); omega) | omega | (have zz_ := fz_z (by assumption); omega) | (split <;> omega) | done)), ?_⟩
          intro v93 s93 hv93 Ws93 e93_0 e93_1 e93_2 e93_3 e93_4 e93_5 e93_6 e93_7 e93_8 e93_9 q93
          unfold rng at hv93
          unfold post_X14_readArg at q93
          obtain ⟨q93_1, q93_2, q93_3, q93_4, q93_5, q93_6, q93_7, q93_8, q93_9⟩ := q93
          (try simp only [Ks64, NBP, NBQ] at q93_1 q93_2 q93_3 q93_4 q93_5 q93_6 q93_7 q93_8 q93_9 e93_0 e93_1 e93_2 e93_3 e93_4 e93_5 e93_6 e93_7 e93_8 e93_9)
          have Ks93 : rR s93 7 = rR σ 7 := by first | assumption | ((try simp only [rR_sF, rR_sA, rR_sT, rR_sL] at e93_0 e93_1 e93_2 e93_3 e93_4 e93_5 e93_6 e93_7 e93_8 e93_9); omega)
          have zr93 := fz_rng s93
          have zc93 : fz s93 = 0 → fz s64 = 0 := fun hf => by omega
          have A93 : Im (fz s93 = 0) (RG σ s93 (rR σ 7) 0) := fun hf => RG.trk hp_2 (A64 (zc93 hf)) (q93_8 (by omega)) (Or.inr (Or.inl rfl))
          obtain ⟨g93, X93⟩ := q93_9
          have Ou63 : Im (fz s93 = 0) _ := fun hf => OP.gk0 (Ou25 (zc93 hf)) ((X93 hf).2.1)
          have Lu64 : Im (fz s93 = 0) _ := fun hf => LI.gk0 hp_2 (Lu26 (zc93 hf)) (Ou25 (zc93 hf)) (q93_8 (by omega)) ((X93 hf).2.1)
          have Ku65 : Im (fz s93 = 0) (GK g g93 (rF σ (rR σ 7) 7) (rF s93 (rR σ 7) 7) 0) := fun hf => GK.trans (Ku27 (zc93 hf)) ((X93 hf).2.1) (Or.inr (Or.inl rfl))
          have Gu66 : Im (fz s93 = 0) (GS s93 (rR σ 7) g93) := fun hf => (X93 hf).1
          have r93 : Im (fz s93 = 0) _ := fun hf => (X93 hf).2.2.1
          have TPRp_93 := e93_0 TPRp_64; clear e93_0
          have CCp_93 := e93_1 CCp_64; clear e93_1
          refine ⟨(by (try simp only [pre_X14_node_t, Ks93]); (all_goals (repeat' (first | with_reducible intro _ | with_reducible apply And.intro | with_reducible refine Exists.intro g93 ?_ | with_reducible refine Im.and ?_ ?_))); all_goals (first | assumption | trivial | ((with_reducible refine Im.i fun hf_ => ?_); first | exact (A93 hf_) | exact (Gu66 hf_) | exact (Ku65 hf_) | exact (Ou63 hf_).cst | exact (Lu64 hf_) | exact (r93 hf_).cst | exact ok1.i | (exact LI.z (fun h => absurd h (by decide))) | (exact absurd hf_ (by omega)) | omega) | (unfold NBP; (try simp only [Ks93]); omega) | (unfold NBQ; (try simp only [Ks93]); omega) | omega | (have zz_ := fz_z (by assumption); omega) | (split <;> omega) | done)), ?_⟩
          intro v98 s98 hv98 Ws98 e98_0 e98_1 e98_2 e98_3 e98_4 e98_5 e98_6 e98_7 e98_8 e98_9 e98_10 e98_11 e98_12 e98_13 e98_14 e98_15 e98_16 e98_17 e98_18 e98_19 e98_20 e98_21 e98_22 q98
          unfold rng at hv98
          unfold post_X14_node_t at q98
          obtain ⟨q98_1, q98_2, q98_3, q98_4, q98_5, q98_6, q98_7, q98_8, q98_9⟩ := q98
          (try simp only [Ks93, NBP, NBQ] at q98_1 q98_2 q98_3 q98_4 q98_5 q98_6 q98_7 q98_8 q98_9 e98_0 e98_1 e98_2 e98_3 e98_4 e98_5 e98_6 e98_7 e98_8 e98_9 e98_10 e98_11 e98_12 e98_13 e98_14 e98_15 e98_16 e98_17 e98_18 e98_19 e98_20 e98_21 e98_22)
          have Ks98 : rR s98 7 = rR σ 7 := by first | assumption | ((try simp only [rR_sF, rR_sA, rR_sT, rR_sL] at e98_0 e98_1 e98_2 e98_3 e98_4 e98_5 e98_6 e98_7 e98_8 e98_9 e98_10 e98_11 e98_12 e98_13 e98_14 e98_15 e98_16 e98_17 e98_18 e98_19 e98_20 e98_21 e98_22); omega)
          have zr98 := fz_rng s98
          have zc98 : fz s98 = 0 → fz s93 = 0 := fun hf => by omega
          have A98 : Im (fz s98 = 0) (RG σ s98 (rR σ 7) 0) := fun hf => RG.trk hp_2 (A93 (zc98 hf)) q98_3 (Or.inr (Or.inl rfl))
          obtain ⟨g98, X98⟩ := EV_60 (P := fz s98 = 0) (rF s64 0 29) (rF s93 0 31) hp_2 (fun hf => Gu66 (zc98 hf)) (fun hf => r93 (zc98 hf)) (fun _ h => h) (fun hf => q98_3) q98_1 q98_2 q98_4 q98_5 q98_6 q98_9 (fun hf => by (try simp only [rF_sT, rF_sA]); (repeat' (with_reducible apply And.intro)) <;> first | trivial | omega)
          have Ou67 : Im (fz s98 = 0) _ := fun hf => OP.kv (Ou63 (zc98 hf)) (X98 hf).2.1 (X98 hf).2.2.2.2.1.1
          have Lu68 : Im (fz s98 = 0) _ := fun hf => LI.kv hp_2 (Lu64 (zc98 hf)) (Ou63 (zc98 hf)) q98_3 (X98 hf).2.1 ⟨(X98 hf).2.2.2.2.1.2, (X98 hf).2.2.2.2.1.1⟩
          have Ku69 : Im (fz s98 = 0) (GK g g98 (rF σ (rR σ 7) 7) (rF s98 (rR σ 7) 7) 0) := fun hf => GK.kv (Ku65 (zc98 hf)) (X98 hf).2.1 (by omega)
          have Gu70 : Im (fz s98 = 0) _ := fun hf => (X98 hf).1
          have O98 : Im (fz s98 = 0) _ := fun hf => (X98 hf).2.2.1
          have L98_1 : Im (fz s98 = 0) _ := fun hf => (X98 hf).2.2.2.1
          have rNMp_98 := e98_0 q93_2; clear e98_0
          have TPRp_98 := e98_1 TPRp_93; clear e98_1
          have WNp_98 := e98_2 q93_3; clear e98_2
          have PNp_98 := e98_3 q93_4; clear e98_3
          have CCp_98 := e98_4 CCp_93; clear e98_4
          refine ⟨fun c104 => ?_, fun c104 => ?_⟩
          · refine ⟨(by (try simp only [Ks98]); (all_goals (repeat' (first | with_reducible intro _ | with_reducible apply And.intro | with_reducible refine Exists.intro g98 ?_ | with_reducible refine Im.and ?_ ?_))); all_goals (first | assumption | trivial | ((with_reducible refine Im.i fun hf_ => ?_); first | exact (A98 hf_) | exact (Gu70 hf_) | exact (Ku69 hf_) | exact (Ou67 hf_).cst | exact (Lu68 hf_) | exact (O98 hf_).cst | exact (L98_1 hf_) | exact ok1.i | (exact LI.z (fun h => absurd h (by decide))) | (exact absurd hf_ (by omega)) | omega) | (unfold NBP; (try simp only [Ks98]); omega) | (unfold NBQ; (try simp only [Ks98]); omega) | omega | (have zz_ := fz_z (by assumption); omega) | (split <;> omega) | done)), ?_⟩
            obtain ⟨gu71, Xu72⟩ := EC_60 (P := fz s98 = 0) (rF s93 0 29) Gu70 O98 (fun hf => by omega)
            have Ou73 : Im (fz s98 = 0) _ := fun hf => OP.kc (Ou67 hf) (Xu72 hf).2.2 (by omega)
            have Lu74 : Im (fz s98 = 0) _ := fun hf => LI.kc (Lu68 hf) (Xu72 hf).2.2
            have O98u75 : Im (fz s98 = 0) _ := fun hf => (Xu72 hf).2.1
            have Ku76 : Im (fz s98 = 0) (GK g gu71 (rF σ (rR σ 7) 7) (rF s98 (rR σ 7) 7) 0) := fun hf => GK.kc (Ku69 hf) (Xu72 hf).2.2 (by omega)
            have Gu77 : Im (fz s98 = 0) _ := fun hf => (Xu72 hf).1
            have A131 : Im (fz s98 = 0) (RG σ (sT s98 (rR σ 7) 5 y52_2 v98) (rR σ 7) 0) := fun hf => RG.tst (f := 5) (i := y52_2) (x := v98) hp_2 (A98 hf) (by decide) (by omega)
            obtain ⟨gs131, Xs131⟩ := EA_1_34 (P := fz s98 = 0) hp_2 Gu77 Ou73 Lu74 O98u75 (fun _ h => h) (fun hf => by omega)
            have Ku78 : Im (fz s98 = 0) (GK g gs131 (rF σ (rR σ 7) 7) (rF s98 (rR σ 7) 7) 0) := fun hf => GK.ks (Ku76 hf) (Xs131 hf).2.2.2.1 (by omega) (by omega)
            have Gu79 : Im (fz s98 = 0) _ := fun hf => (Xs131 hf).1
            have Ou80 : Im (fz s98 = 0) _ := fun hf => (Xs131 hf).2.1
            have Lu81 : Im (fz s98 = 0) _ := fun hf => (Xs131 hf).2.2.1
            refine ⟨(by (try simp only [pre_X14_blanks, reduceIte, and_true, true_and, and_false, false_and, and_self, Nat.reduceEqDiff, fz_sA, rF_sA, rA_sA, rR_sA, rF_sT, rR_sT, sT_sF, fz_sT, rA_sT26 hp_2, rA_sT27 hp_2, rA_sT34 hp_2, rA_sT35 hp_2, rA_sT36 hp_2, rA_sT37 hp_2, rA_sT40 hp_2, TPRp_sT hp_2, WNp_sT hp_2, VMp_sT hp_2, KYp_sT hp_2, PPp_sT hp_2, WFp_sT hp_2, CCp_sT hp_2, rNMp_sT5, PNp_sT5, rk_n0 hp_2, Ks98]); (all_goals (repeat' (first | with_reducible intro _ | with_reducible apply And.intro | with_reducible refine Exists.intro gs131 ?_ | with_reducible refine Im.and ?_ ?_))); all_goals (first | assumption | trivial | ((with_reducible refine Im.i fun hf_ => ?_); first | exact (A131 hf_) | exact (Gu79 hf_) | exact (Ku78 hf_) | exact (Ou80 hf_).cst | exact (Lu81 hf_) | exact ok1.i | (exact LI.z (fun h => absurd h (by decide))) | (exact absurd hf_ (by omega)) | omega) | (unfold NBP; (try simp only [reduceIte, and_true, true_and, and_false, false_and, and_self, Nat.reduceEqDiff, fz_sA, rF_sA, rA_sA, rR_sA, rF_sT, rR_sT, sT_sF, fz_sT, rA_sT26 hp_2, rA_sT27 hp_2, rA_sT34 hp_2, rA_sT35 hp_2, rA_sT36 hp_2, rA_sT37 hp_2, rA_sT40 hp_2, TPRp_sT hp_2, WNp_sT hp_2, VMp_sT hp_2, KYp_sT hp_2, PPp_sT hp_2, WFp_sT hp_2, CCp_sT hp_2, rNMp_sT5, PNp_sT5, rk_n0 hp_2, Ks98]); omega) | (unfold NBQ; (try simp only [reduceIte, and_true, true_and, and_false, false_and, and_self, Nat.reduceEqDiff, fz_sA, rF_sA, rA_sA, rR_sA, rF_sT, rR_sT, sT_sF, fz_sT, rA_sT26 hp_2, rA_sT27 hp_2, rA_sT34 hp_2, rA_sT35 hp_2, rA_sT36 hp_2, rA_sT37 hp_2, rA_sT40 hp_2, TPRp_sT hp_2, WNp_sT hp_2, VMp_sT hp_2, KYp_sT hp_2, PPp_sT hp_2, WFp_sT hp_2, CCp_sT hp_2, rNMp_sT5, PNp_sT5, rk_n0 hp_2, Ks98]); omega) | omega | (have zz_ := fz_z (by assumption); omega) | (split <;> omega) | done)), ?_⟩
            intro s136 Ws136 e136_0 e136_1 e136_2 e136_3 e136_4 e136_5 e136_6 e136_7 e136_8 e136_9 e136_10 e136_11 e136_12 e136_13 e136_14 e136_15 e136_16 e136_17 e136_18 e136_19 e136_20 e136_21 e136_22 R136 q136
            have q136 := dig_blanks q136 (by (try simp only [reduceIte, and_true, true_and, and_false, false_and, and_self, Nat.reduceEqDiff, fz_sA, rF_sA, rA_sA, rR_sA, rF_sT, rR_sT, sT_sF, fz_sT, rA_sT26 hp_2, rA_sT27 hp_2, rA_sT34 hp_2, rA_sT35 hp_2, rA_sT36 hp_2, rA_sT37 hp_2, rA_sT40 hp_2, TPRp_sT hp_2, WNp_sT hp_2, VMp_sT hp_2, KYp_sT hp_2, PPp_sT hp_2, WFp_sT hp_2, CCp_sT hp_2, rNMp_sT5, PNp_sT5, rk_n0 hp_2, Ks98]); omega)
            obtain ⟨q136_1, q136_2⟩ := q136
            (try simp only [reduceIte, and_true, true_and, and_false, false_and, and_self, Nat.reduceEqDiff, fz_sA, rF_sA, rA_sA, rR_sA, rF_sT, rR_sT, sT_sF, fz_sT, rA_sT26 hp_2, rA_sT27 hp_2, rA_sT34 hp_2, rA_sT35 hp_2, rA_sT36 hp_2, rA_sT37 hp_2, rA_sT40 hp_2, TPRp_sT hp_2, WNp_sT hp_2, VMp_sT hp_2, KYp_sT hp_2, PPp_sT hp_2, WFp_sT hp_2, CCp_sT hp_2, rNMp_sT5, PNp_sT5, rk_n0 hp_2, Ks98, NBP, NBQ] at q136_1 q136_2 e136_0 e136_1 e136_2 e136_3 e136_4 e136_5 e136_6 e136_7 e136_8 e136_9 e136_10 e136_11 e136_12 e136_13 e136_14 e136_15 e136_16 e136_17 e136_18 e136_19 e136_20 e136_21 e136_22 R136)
            have Ks136 : rR s136 7 = rR σ 7 := by first | assumption | ((try simp only [rR_sF, rR_sA, rR_sT, rR_sL] at e136_0 e136_1 e136_2 e136_3 e136_4 e136_5 e136_6 e136_7 e136_8 e136_9 e136_10 e136_11 e136_12 e136_13 e136_14 e136_15 e136_16 e136_17 e136_18 e136_19 e136_20 e136_21 e136_22 R136); omega)
            have zr136 := fz_rng s136
            have zc136 : fz s136 = 0 → fz s98 = 0 := fun hf => by omega
            have A136 : Im (fz s136 = 0) (RG σ s136 (rR σ 7) 0) := fun hf => RG.trk hp_2 (A131 (zc136 hf)) R136 (Or.inr (Or.inl rfl))
            have Ou82 : Im (fz s136 = 0) _ := fun hf => OP.gk0 (Ou80 (zc136 hf)) (GK.up (g := gs131) (N := rF (sT s98 (rR σ 7) 5 y52_2 v98) (rR σ 7) 7) (N' := rF s136 (rR σ 7) 7) (c := 0) (by first | assumption | omega | (simp only [rF_sT, rF_sA]; omega)))
            have Lu83 : Im (fz s136 = 0) _ := fun hf => LI.gk0 hp_2 (Lu81 (zc136 hf)) (Ou80 (zc136 hf)) R136 (GK.up (g := gs131) (N := rF (sT s98 (rR σ 7) 5 y52_2 v98) (rR σ 7) 7) (N' := rF s136 (rR σ 7) 7) (c := 0) (by first | assumption | omega | (simp only [rF_sT, rF_sA]; omega)))
            have Ku84 : Im (fz s136 = 0) (GK g gs131 (rF σ (rR σ 7) 7) (rF s136 (rR σ 7) 7) 0) := fun hf => GK.trans (Ku78 (zc136 hf)) (GK.up (N := rF (sT s98 (rR σ 7) 5 y52_2 v98) (rR σ 7) 7) (N' := rF s136 (rR σ 7) 7) (c := 0) (by first | assumption | omega | (simp only [rF_sT, rF_sA]; omega))) (Or.inr (Or.inl rfl))
            have Gu85 : Im (fz s136 = 0) (GS s136 (rR σ 7) gs131) := fun hf => GS.mv hp_2 (Gu79 (zc136 hf)) R136 (by first | assumption | omega | (simp only [rF_sT, rF_sA]; omega)) (by first | (exact Int.le_of_eq (Eq.symm (by assumption))) | omega | (simp only [rF_sT, rF_sA]; omega))
            have rNMp_136 := e136_0 rNMp_98; clear e136_0
            have TPRp_136 := e136_1 TPRp_98; clear e136_1
            have WNp_136 := e136_2 WNp_98; clear e136_2
            have PNp_136 := e136_3 PNp_98; clear e136_3
            have CCp_136 := e136_4 CCp_98; clear e136_4
            refine ⟨(by (try simp only [pre_X14_here, Ks136]); (all_goals (repeat' (first | with_reducible intro _ | with_reducible apply And.intro | with_reducible refine Exists.intro gs131 ?_ | with_reducible refine Im.and ?_ ?_))); all_goals (first | assumption | trivial | ((with_reducible refine Im.i fun hf_ => ?_); first | exact (A136 hf_) | exact (Gu85 hf_) | exact (Ku84 hf_) | exact (Ou82 hf_).cst | exact (Lu83 hf_) | exact ok1.i | (exact LI.z (fun h => absurd h (by decide))) | (exact absurd hf_ (by omega)) | omega) | (unfold NBP; (try simp only [Ks136]); omega) | (unfold NBQ; (try simp only [Ks136]); omega) | omega | (have zz_ := fz_z (by assumption); omega) | (split <;> omega) | done)), ?_⟩
            intro v140 hv140 q140
            unfold rng at hv140
            unfold post_X14_here at q140
            obtain ⟨q140_1, q140_2⟩ := q140
            (try simp only [Ks136, NBP, NBQ] at q140_1 q140_2)
            refine ⟨fun c145 => ?_, fun c145 => ?_⟩
            · exact (by (try simp only [inv_X14_readRow_52, mu_X14_readRow_52, mu_X14_readRow_52, Ks136]); (all_goals (repeat' (first | with_reducible intro _ | with_reducible apply And.intro | with_reducible refine Exists.intro gs131 ?_ | with_reducible refine Im.and ?_ ?_))); all_goals (first | assumption | trivial | ((with_reducible refine Im.i fun hf_ => ?_); first | exact (A136 hf_) | exact (Gu85 hf_) | exact (Ku84 hf_) | exact (Ou82 hf_).cst | exact (Lu83 hf_) | exact ok1.i | (exact LI.z (fun h => absurd h (by decide))) | (exact absurd hf_ (by omega)) | omega) | (unfold NBP; (try simp only [Ks136]); omega) | (unfold NBQ; (try simp only [Ks136]); omega) | omega | (have zz_ := fz_z (by assumption); omega) | (split <;> omega) | done))
            · intro hr_; unfold rng at hr_
              refine ⟨(by (try simp only [rng, Ks136]); (all_goals (repeat' (first | with_reducible intro _ | with_reducible apply And.intro | with_reducible refine Exists.intro gs131 ?_ | with_reducible refine Im.and ?_ ?_))); all_goals (first | assumption | trivial | ((with_reducible refine Im.i fun hf_ => ?_); first | exact (A136 hf_) | exact (Gu85 hf_) | exact (Ku84 hf_) | exact (Ou82 hf_).cst | exact (Lu83 hf_) | exact ok1.i | (exact LI.z (fun h => absurd h (by decide))) | (exact absurd hf_ (by omega)) | omega) | (unfold NBP; (try simp only [Ks136]); omega) | (unfold NBQ; (try simp only [Ks136]); omega) | omega | (have zz_ := fz_z (by assumption); omega) | (split <;> omega) | done)), ?_⟩
              exact (by (try simp only [inv_X14_readRow_52, mu_X14_readRow_52, mu_X14_readRow_52, reduceIte, and_true, true_and, and_false, false_and, and_self, Nat.reduceEqDiff, fz_sF29, rF_sF, rA_sF, rR_sF, tr_sF, rNMp_sF, PNp_sF, GS_F29, OP_F29, NR_F29, LI_F29, RG_l29, RG_r29, TPRp_sF29, WNp_sF29, VMp_sF29, KYp_sF29, PPp_sF29, WFp_sF29, CCp_sF29, rk_n0 hp_2, Ks136]); (all_goals (repeat' (first | with_reducible intro _ | with_reducible apply And.intro | with_reducible refine Exists.intro gs131 ?_ | with_reducible refine Im.and ?_ ?_))); all_goals (first | assumption | trivial | ((with_reducible refine Im.i fun hf_ => ?_); first | exact (A136 hf_) | exact (Gu85 hf_) | exact (Ku84 hf_) | exact (Ou82 hf_).cst | exact (Lu83 hf_) | exact ok1.i | (exact LI.z (fun h => absurd h (by decide))) | (exact absurd hf_ (by omega)) | omega) | (unfold NBP; (try simp only [reduceIte, and_true, true_and, and_false, false_and, and_self, Nat.reduceEqDiff, fz_sF29, rF_sF, rA_sF, rR_sF, tr_sF, rNMp_sF, PNp_sF, GS_F29, OP_F29, NR_F29, LI_F29, RG_l29, RG_r29, TPRp_sF29, WNp_sF29, VMp_sF29, KYp_sF29, PPp_sF29, WFp_sF29, CCp_sF29, rk_n0 hp_2, Ks136]); omega) | (unfold NBQ; (try simp only [reduceIte, and_true, true_and, and_false, false_and, and_self, Nat.reduceEqDiff, fz_sF29, rF_sF, rA_sF, rR_sF, tr_sF, rNMp_sF, PNp_sF, GS_F29, OP_F29, NR_F29, LI_F29, RG_l29, RG_r29, TPRp_sF29, WNp_sF29, VMp_sF29, KYp_sF29, PPp_sF29, WFp_sF29, CCp_sF29, rk_n0 hp_2, Ks136]); omega) | omega | (have zz_ := fz_z (by assumption); omega) | (split <;> omega) | done))
          · refine ⟨(by (try simp only [Ks98]); (all_goals (repeat' (first | with_reducible intro _ | with_reducible apply And.intro | with_reducible refine Exists.intro g98 ?_ | with_reducible refine Im.and ?_ ?_))); all_goals (first | assumption | trivial | ((with_reducible refine Im.i fun hf_ => ?_); first | exact (A98 hf_) | exact (Gu70 hf_) | exact (Ku69 hf_) | exact (Ou67 hf_).cst | exact (Lu68 hf_) | exact (O98 hf_).cst | exact (L98_1 hf_) | exact ok1.i | (exact LI.z (fun h => absurd h (by decide))) | (exact absurd hf_ (by omega)) | omega) | (unfold NBP; (try simp only [Ks98]); omega) | (unfold NBQ; (try simp only [Ks98]); omega) | omega | (have zz_ := fz_z (by assumption); omega) | (split <;> omega) | done)), ?_⟩
            obtain ⟨gu86, Xu87⟩ := EC_60 (P := fz s98 = 0) (rF s93 0 29) Gu70 O98 (fun hf => by omega)
            have Ou88 : Im (fz s98 = 0) _ := fun hf => OP.kc (Ou67 hf) (Xu87 hf).2.2 (by omega)
            have Lu89 : Im (fz s98 = 0) _ := fun hf => LI.kc (Lu68 hf) (Xu87 hf).2.2
            have O98u90 : Im (fz s98 = 0) _ := fun hf => (Xu87 hf).2.1
            have Ku91 : Im (fz s98 = 0) (GK g gu86 (rF σ (rR σ 7) 7) (rF s98 (rR σ 7) 7) 0) := fun hf => GK.kc (Ku69 hf) (Xu87 hf).2.2 (by omega)
            have Gu92 : Im (fz s98 = 0) _ := fun hf => (Xu87 hf).1
            have A117 : Im (fz s98 = 0) (RG σ (sT s98 (rR σ 7) 1 y52_1 v98) (rR σ 7) 0) := fun hf => RG.tst (f := 1) (i := y52_1) (x := v98) hp_2 (A98 hf) (by decide) (by omega)
            obtain ⟨gs117, Xs117⟩ := EH_1_34 (P := fz s98 = 0) hp_2 Gu92 Ou88 Lu89 O98u90 (fun _ h => h) (fun hf => by omega)
            have Ku93 : Im (fz s98 = 0) (GK g gs117 (rF σ (rR σ 7) 7) (rF s98 (rR σ 7) 7) 0) := fun hf => GK.ks (Ku91 hf) (Xs117 hf).2.2.2.1 (by omega) (by omega)
            have Gu94 : Im (fz s98 = 0) _ := fun hf => (Xs117 hf).1
            have Ou95 : Im (fz s98 = 0) _ := fun hf => (Xs117 hf).2.1
            have Lu96 : Im (fz s98 = 0) _ := fun hf => (Xs117 hf).2.2.1
            refine ⟨(by (try simp only [pre_X14_blanks, reduceIte, and_true, true_and, and_false, false_and, and_self, Nat.reduceEqDiff, fz_sA, rF_sA, rA_sA, rR_sA, rF_sT, rR_sT, sT_sF, fz_sT, rA_sT26 hp_2, rA_sT27 hp_2, rA_sT34 hp_2, rA_sT35 hp_2, rA_sT36 hp_2, rA_sT37 hp_2, rA_sT40 hp_2, TPRp_sT hp_2, WNp_sT hp_2, VMp_sT hp_2, KYp_sT hp_2, PPp_sT hp_2, WFp_sT hp_2, CCp_sT hp_2, rNMp_sT1, PNp_sT1, rk_n0 hp_2, Ks98]); (all_goals (repeat' (first | with_reducible intro _ | with_reducible apply And.intro | with_reducible refine Exists.intro gs117 ?_ | with_reducible refine Im.and ?_ ?_))); all_goals (first | assumption | trivial | ((with_reducible refine Im.i fun hf_ => ?_); first | exact (A117 hf_) | exact (Gu94 hf_) | exact (Ku93 hf_) | exact (Ou95 hf_).cst | exact (Lu96 hf_) | exact ok1.i | (exact LI.z (fun h => absurd h (by decide))) | (exact absurd hf_ (by omega)) | omega) | (unfold NBP; (try simp only [reduceIte, and_true, true_and, and_false, false_and, and_self, Nat.reduceEqDiff, fz_sA, rF_sA, rA_sA, rR_sA, rF_sT, rR_sT, sT_sF, fz_sT, rA_sT26 hp_2, rA_sT27 hp_2, rA_sT34 hp_2, rA_sT35 hp_2, rA_sT36 hp_2, rA_sT37 hp_2, rA_sT40 hp_2, TPRp_sT hp_2, WNp_sT hp_2, VMp_sT hp_2, KYp_sT hp_2, PPp_sT hp_2, WFp_sT hp_2, CCp_sT hp_2, rNMp_sT1, PNp_sT1, rk_n0 hp_2, Ks98]); omega) | (unfold NBQ; (try simp only [reduceIte, and_true, true_and, and_false, false_and, and_self, Nat.reduceEqDiff, fz_sA, rF_sA, rA_sA, rR_sA, rF_sT, rR_sT, sT_sF, fz_sT, rA_sT26 hp_2, rA_sT27 hp_2, rA_sT34 hp_2, rA_sT35 hp_2, rA_sT36 hp_2, rA_sT37 hp_2, rA_sT40 hp_2, TPRp_sT hp_2, WNp_sT hp_2, VMp_sT hp_2, KYp_sT hp_2, PPp_sT hp_2, WFp_sT hp_2, CCp_sT hp_2, rNMp_sT1, PNp_sT1, rk_n0 hp_2, Ks98]); omega) | omega | (have zz_ := fz_z (by assumption); omega) | (split <;> omega) | done)), ?_⟩
            intro s136 Ws136 e136_0 e136_1 e136_2 e136_3 e136_4 e136_5 e136_6 e136_7 e136_8 e136_9 e136_10 e136_11 e136_12 e136_13 e136_14 e136_15 e136_16 e136_17 e136_18 e136_19 e136_20 e136_21 e136_22 R136 q136
            have q136 := dig_blanks q136 (by (try simp only [reduceIte, and_true, true_and, and_false, false_and, and_self, Nat.reduceEqDiff, fz_sA, rF_sA, rA_sA, rR_sA, rF_sT, rR_sT, sT_sF, fz_sT, rA_sT26 hp_2, rA_sT27 hp_2, rA_sT34 hp_2, rA_sT35 hp_2, rA_sT36 hp_2, rA_sT37 hp_2, rA_sT40 hp_2, TPRp_sT hp_2, WNp_sT hp_2, VMp_sT hp_2, KYp_sT hp_2, PPp_sT hp_2, WFp_sT hp_2, CCp_sT hp_2, rNMp_sT1, PNp_sT1, rk_n0 hp_2, Ks98]); omega)
            obtain ⟨q136_1, q136_2⟩ := q136
            (try simp only [reduceIte, and_true, true_and, and_false, false_and, and_self, Nat.reduceEqDiff, fz_sA, rF_sA, rA_sA, rR_sA, rF_sT, rR_sT, sT_sF, fz_sT, rA_sT26 hp_2, rA_sT27 hp_2, rA_sT34 hp_2, rA_sT35 hp_2, rA_sT36 hp_2, rA_sT37 hp_2, rA_sT40 hp_2, TPRp_sT hp_2, WNp_sT hp_2, VMp_sT hp_2, KYp_sT hp_2, PPp_sT hp_2, WFp_sT hp_2, CCp_sT hp_2, rNMp_sT1, PNp_sT1, rk_n0 hp_2, Ks98, NBP, NBQ] at q136_1 q136_2 e136_0 e136_1 e136_2 e136_3 e136_4 e136_5 e136_6 e136_7 e136_8 e136_9 e136_10 e136_11 e136_12 e136_13 e136_14 e136_15 e136_16 e136_17 e136_18 e136_19 e136_20 e136_21 e136_22 R136)
            have Ks136 : rR s136 7 = rR σ 7 := by first | assumption | ((try simp only [rR_sF, rR_sA, rR_sT, rR_sL] at e136_0 e136_1 e136_2 e136_3 e136_4 e136_5 e136_6 e136_7 e136_8 e136_9 e136_10 e136_11 e136_12 e136_13 e136_14 e136_15 e136_16 e136_17 e136_18 e136_19 e136_20 e136_21 e136_22 R136); omega)
            have zr136 := fz_rng s136
            have zc136 : fz s136 = 0 → fz s98 = 0 := fun hf => by omega
            have A136 : Im (fz s136 = 0) (RG σ s136 (rR σ 7) 0) := fun hf => RG.trk hp_2 (A117 (zc136 hf)) R136 (Or.inr (Or.inl rfl))
            have Ou97 : Im (fz s136 = 0) _ := fun hf => OP.gk0 (Ou95 (zc136 hf)) (GK.up (g := gs117) (N := rF (sT s98 (rR σ 7) 1 y52_1 v98) (rR σ 7) 7) (N' := rF s136 (rR σ 7) 7) (c := 0) (by first | assumption | omega | (simp only [rF_sT, rF_sA]; omega)))
            have Lu98 : Im (fz s136 = 0) _ := fun hf => LI.gk0 hp_2 (Lu96 (zc136 hf)) (Ou95 (zc136 hf)) R136 (GK.up (g := gs117) (N := rF (sT s98 (rR σ 7) 1 y52_1 v98) (rR σ 7) 7) (N' := rF s136 (rR σ 7) 7) (c := 0) (by first | assumption | omega | (simp only [rF_sT, rF_sA]; omega)))
            have Ku99 : Im (fz s136 = 0) (GK g gs117 (rF σ (rR σ 7) 7) (rF s136 (rR σ 7) 7) 0) := fun hf => GK.trans (Ku93 (zc136 hf)) (GK.up (N := rF (sT s98 (rR σ 7) 1 y52_1 v98) (rR σ 7) 7) (N' := rF s136 (rR σ 7) 7) (c := 0) (by first | assumption | omega | (simp only [rF_sT, rF_sA]; omega))) (Or.inr (Or.inl rfl))
            have Gu100 : Im (fz s136 = 0) (GS s136 (rR σ 7) gs117) := fun hf => GS.mv hp_2 (Gu94 (zc136 hf)) R136 (by first | assumption | omega | (simp only [rF_sT, rF_sA]; omega)) (by first | (exact Int.le_of_eq (Eq.symm (by assumption))) | omega | (simp only [rF_sT, rF_sA]; omega))
            have rNMp_136 := e136_0 rNMp_98; clear e136_0
            have TPRp_136 := e136_1 TPRp_98; clear e136_1
            have WNp_136 := e136_2 WNp_98; clear e136_2
            have PNp_136 := e136_3 PNp_98; clear e136_3
            have CCp_136 := e136_4 CCp_98; clear e136_4
            refine ⟨(by (try simp only [pre_X14_here, Ks136]); (all_goals (repeat' (first | with_reducible intro _ | with_reducible apply And.intro | with_reducible refine Exists.intro gs117 ?_ | with_reducible refine Im.and ?_ ?_))); all_goals (first | assumption | trivial | ((with_reducible refine Im.i fun hf_ => ?_); first | exact (A136 hf_) | exact (Gu100 hf_) | exact (Ku99 hf_) | exact (Ou97 hf_).cst | exact (Lu98 hf_) | exact ok1.i | (exact LI.z (fun h => absurd h (by decide))) | (exact absurd hf_ (by omega)) | omega) | (unfold NBP; (try simp only [Ks136]); omega) | (unfold NBQ; (try simp only [Ks136]); omega) | omega | (have zz_ := fz_z (by assumption); omega) | (split <;> omega) | done)), ?_⟩
            intro v140 hv140 q140
            unfold rng at hv140
            unfold post_X14_here at q140
            obtain ⟨q140_1, q140_2⟩ := q140
            (try simp only [Ks136, NBP, NBQ] at q140_1 q140_2)
            refine ⟨fun c145 => ?_, fun c145 => ?_⟩
            · exact (by (try simp only [inv_X14_readRow_52, mu_X14_readRow_52, mu_X14_readRow_52, Ks136]); (all_goals (repeat' (first | with_reducible intro _ | with_reducible apply And.intro | with_reducible refine Exists.intro gs117 ?_ | with_reducible refine Im.and ?_ ?_))); all_goals (first | assumption | trivial | ((with_reducible refine Im.i fun hf_ => ?_); first | exact (A136 hf_) | exact (Gu100 hf_) | exact (Ku99 hf_) | exact (Ou97 hf_).cst | exact (Lu98 hf_) | exact ok1.i | (exact LI.z (fun h => absurd h (by decide))) | (exact absurd hf_ (by omega)) | omega) | (unfold NBP; (try simp only [Ks136]); omega) | (unfold NBQ; (try simp only [Ks136]); omega) | omega | (have zz_ := fz_z (by assumption); omega) | (split <;> omega) | done))
            · intro hr_; unfold rng at hr_
              refine ⟨(by (try simp only [rng, Ks136]); (all_goals (repeat' (first | with_reducible intro _ | with_reducible apply And.intro | with_reducible refine Exists.intro gs117 ?_ | with_reducible refine Im.and ?_ ?_))); all_goals (first | assumption | trivial | ((with_reducible refine Im.i fun hf_ => ?_); first | exact (A136 hf_) | exact (Gu100 hf_) | exact (Ku99 hf_) | exact (Ou97 hf_).cst | exact (Lu98 hf_) | exact ok1.i | (exact LI.z (fun h => absurd h (by decide))) | (exact absurd hf_ (by omega)) | omega) | (unfold NBP; (try simp only [Ks136]); omega) | (unfold NBQ; (try simp only [Ks136]); omega) | omega | (have zz_ := fz_z (by assumption); omega) | (split <;> omega) | done)), ?_⟩
              exact (by (try simp only [inv_X14_readRow_52, mu_X14_readRow_52, mu_X14_readRow_52, reduceIte, and_true, true_and, and_false, false_and, and_self, Nat.reduceEqDiff, fz_sF29, rF_sF, rA_sF, rR_sF, tr_sF, rNMp_sF, PNp_sF, GS_F29, OP_F29, NR_F29, LI_F29, RG_l29, RG_r29, TPRp_sF29, WNp_sF29, VMp_sF29, KYp_sF29, PPp_sF29, WFp_sF29, CCp_sF29, rk_n0 hp_2, Ks136]); (all_goals (repeat' (first | with_reducible intro _ | with_reducible apply And.intro | with_reducible refine Exists.intro gs117 ?_ | with_reducible refine Im.and ?_ ?_))); all_goals (first | assumption | trivial | ((with_reducible refine Im.i fun hf_ => ?_); first | exact (A136 hf_) | exact (Gu100 hf_) | exact (Ku99 hf_) | exact (Ou97 hf_).cst | exact (Lu98 hf_) | exact ok1.i | (exact LI.z (fun h => absurd h (by decide))) | (exact absurd hf_ (by omega)) | omega) | (unfold NBP; (try simp only [reduceIte, and_true, true_and, and_false, false_and, and_self, Nat.reduceEqDiff, fz_sF29, rF_sF, rA_sF, rR_sF, tr_sF, rNMp_sF, PNp_sF, GS_F29, OP_F29, NR_F29, LI_F29, RG_l29, RG_r29, TPRp_sF29, WNp_sF29, VMp_sF29, KYp_sF29, PPp_sF29, WFp_sF29, CCp_sF29, rk_n0 hp_2, Ks136]); omega) | (unfold NBQ; (try simp only [reduceIte, and_true, true_and, and_false, false_and, and_self, Nat.reduceEqDiff, fz_sF29, rF_sF, rA_sF, rR_sF, tr_sF, rNMp_sF, PNp_sF, GS_F29, OP_F29, NR_F29, LI_F29, RG_l29, RG_r29, TPRp_sF29, WNp_sF29, VMp_sF29, KYp_sF29, PPp_sF29, WFp_sF29, CCp_sF29, rk_n0 hp_2, Ks136]); omega) | omega | (have zz_ := fz_z (by assumption); omega) | (split <;> omega) | done))
        · refine ⟨(by (try simp only [pre_X14_node_t, Ks64]); (all_goals (repeat' (first | with_reducible intro _ | with_reducible apply And.intro | with_reducible refine Exists.intro g52 ?_ | with_reducible refine Im.and ?_ ?_))); all_goals (first | assumption | trivial | ((with_reducible refine Im.i fun hf_ => ?_); first | exact (A64 hf_) | exact (Gu28 hf_) | exact (Ku27 hf_) | exact (Ou25 hf_).cst | exact (Lu26 hf_) | exact ok1.i | (exact LI.z (fun h => absurd h (by decide))) | (exact absurd hf_ (by omega)) | omega) | (unfold NBP; (try simp only [Ks64]); omega) | (unfold NBQ; (try simp only [Ks64]); omega) | omega | (have zz_ := fz_z (by assumption); omega) | (split <;> omega) | done)), ?_⟩
          intro v98 s98 hv98 Ws98 e98_0 e98_1 e98_2 e98_3 e98_4 e98_5 e98_6 e98_7 e98_8 e98_9 e98_10 e98_11 e98_12 e98_13 e98_14 e98_15 e98_16 e98_17 e98_18 e98_19 e98_20 e98_21 e98_22 q98
          unfold rng at hv98
          unfold post_X14_node_t at q98
          obtain ⟨q98_1, q98_2, q98_3, q98_4, q98_5, q98_6, q98_7, q98_8, q98_9⟩ := q98
          (try simp only [Ks64, NBP, NBQ] at q98_1 q98_2 q98_3 q98_4 q98_5 q98_6 q98_7 q98_8 q98_9 e98_0 e98_1 e98_2 e98_3 e98_4 e98_5 e98_6 e98_7 e98_8 e98_9 e98_10 e98_11 e98_12 e98_13 e98_14 e98_15 e98_16 e98_17 e98_18 e98_19 e98_20 e98_21 e98_22)
          have Ks98 : rR s98 7 = rR σ 7 := by first | assumption | ((try simp only [rR_sF, rR_sA, rR_sT, rR_sL] at e98_0 e98_1 e98_2 e98_3 e98_4 e98_5 e98_6 e98_7 e98_8 e98_9 e98_10 e98_11 e98_12 e98_13 e98_14 e98_15 e98_16 e98_17 e98_18 e98_19 e98_20 e98_21 e98_22); omega)
          have zr98 := fz_rng s98
          have zc98 : fz s98 = 0 → fz s64 = 0 := fun hf => by omega
          have A98 : Im (fz s98 = 0) (RG σ s98 (rR σ 7) 0) := fun hf => RG.trk hp_2 (A64 (zc98 hf)) q98_3 (Or.inr (Or.inl rfl))
          obtain ⟨g98, X98⟩ := EN_60 (P := fz s98 = 0) (rF s64 0 29) (rF s52 0 31) hp_2 (fun hf => Gu28 (zc98 hf)) (fun hf => q98_3) q98_1 q98_2 q98_4 q98_5 q98_6 q98_9 (fun hf => by (try simp only [rF_sT, rF_sA]); (repeat' (with_reducible apply And.intro)) <;> first | trivial | omega)
          have Ou101 : Im (fz s98 = 0) _ := fun hf => OP.gk0 (Ou25 (zc98 hf)) (X98 hf).2.1
          have Lu102 : Im (fz s98 = 0) _ := fun hf => LI.gk0 hp_2 (Lu26 (zc98 hf)) (Ou25 (zc98 hf)) q98_3 (X98 hf).2.1
          have Ku103 : Im (fz s98 = 0) (GK g g98 (rF σ (rR σ 7) 7) (rF s98 (rR σ 7) 7) 0) := fun hf => GK.gs (Ku27 (zc98 hf)) (X98 hf).2.1
          have Gu104 : Im (fz s98 = 0) _ := fun hf => (X98 hf).1
          have O98 : Im (fz s98 = 0) _ := fun hf => (X98 hf).2.2.1
          have rNMp_98 := e98_0 rNMp_64; clear e98_0
          have TPRp_98 := e98_1 TPRp_64; clear e98_1
          have WNp_98 := e98_2 WNp_64; clear e98_2
          have PNp_98 := e98_3 PNp_64; clear e98_3
          have CCp_98 := e98_4 CCp_64; clear e98_4
          refine ⟨fun c104 => ?_, fun c104 => ?_⟩
          · refine ⟨(by (try simp only [Ks98]); (all_goals (repeat' (first | with_reducible intro _ | with_reducible apply And.intro | with_reducible refine Exists.intro g98 ?_ | with_reducible refine Im.and ?_ ?_))); all_goals (first | assumption | trivial | ((with_reducible refine Im.i fun hf_ => ?_); first | exact (A98 hf_) | exact (Gu104 hf_) | exact (Ku103 hf_) | exact (Ou101 hf_).cst | exact (Lu102 hf_) | exact (O98 hf_).cst | exact ok1.i | (exact LI.z (fun h => absurd h (by decide))) | (exact absurd hf_ (by omega)) | omega) | (unfold NBP; (try simp only [Ks98]); omega) | (unfold NBQ; (try simp only [Ks98]); omega) | omega | (have zz_ := fz_z (by assumption); omega) | (split <;> omega) | done)), ?_⟩
            obtain ⟨gu105, Xu106⟩ := EC_60 (P := fz s98 = 0) (rF s64 0 29) Gu104 O98 (fun hf => by omega)
            have Ou107 : Im (fz s98 = 0) _ := fun hf => OP.kc (Ou101 hf) (Xu106 hf).2.2 (by omega)
            have Lu108 : Im (fz s98 = 0) _ := fun hf => LI.kc (Lu102 hf) (Xu106 hf).2.2
            have O98u109 : Im (fz s98 = 0) _ := fun hf => (Xu106 hf).2.1
            have Ku110 : Im (fz s98 = 0) (GK g gu105 (rF σ (rR σ 7) 7) (rF s98 (rR σ 7) 7) 0) := fun hf => GK.kc (Ku103 hf) (Xu106 hf).2.2 (by omega)
            have Gu111 : Im (fz s98 = 0) _ := fun hf => (Xu106 hf).1
            have A131 : Im (fz s98 = 0) (RG σ (sT s98 (rR σ 7) 5 y52_2 v98) (rR σ 7) 0) := fun hf => RG.tst (f := 5) (i := y52_2) (x := v98) hp_2 (A98 hf) (by decide) (by omega)
            obtain ⟨gs131, Xs131⟩ := EA_1_34 (P := fz s98 = 0) hp_2 Gu111 Ou107 Lu108 O98u109 (fun _ h => h) (fun hf => by omega)
            have Ku112 : Im (fz s98 = 0) (GK g gs131 (rF σ (rR σ 7) 7) (rF s98 (rR σ 7) 7) 0) := fun hf => GK.ks (Ku110 hf) (Xs131 hf).2.2.2.1 (by omega) (by omega)
            have Gu113 : Im (fz s98 = 0) _ := fun hf => (Xs131 hf).1
            have Ou114 : Im (fz s98 = 0) _ := fun hf => (Xs131 hf).2.1
            have Lu115 : Im (fz s98 = 0) _ := fun hf => (Xs131 hf).2.2.1
            refine ⟨(by (try simp only [pre_X14_blanks, reduceIte, and_true, true_and, and_false, false_and, and_self, Nat.reduceEqDiff, fz_sA, rF_sA, rA_sA, rR_sA, rF_sT, rR_sT, sT_sF, fz_sT, rA_sT26 hp_2, rA_sT27 hp_2, rA_sT34 hp_2, rA_sT35 hp_2, rA_sT36 hp_2, rA_sT37 hp_2, rA_sT40 hp_2, TPRp_sT hp_2, WNp_sT hp_2, VMp_sT hp_2, KYp_sT hp_2, PPp_sT hp_2, WFp_sT hp_2, CCp_sT hp_2, rNMp_sT5, PNp_sT5, rk_n0 hp_2, Ks98]); (all_goals (repeat' (first | with_reducible intro _ | with_reducible apply And.intro | with_reducible refine Exists.intro gs131 ?_ | with_reducible refine Im.and ?_ ?_))); all_goals (first | assumption | trivial | ((with_reducible refine Im.i fun hf_ => ?_); first | exact (A131 hf_) | exact (Gu113 hf_) | exact (Ku112 hf_) | exact (Ou114 hf_).cst | exact (Lu115 hf_) | exact ok1.i | (exact LI.z (fun h => absurd h (by decide))) | (exact absurd hf_ (by omega)) | omega) | (unfold NBP; (try simp only [reduceIte, and_true, true_and, and_false, false_and, and_self, Nat.reduceEqDiff, fz_sA, rF_sA, rA_sA, rR_sA, rF_sT, rR_sT, sT_sF, fz_sT, rA_sT26 hp_2, rA_sT27 hp_2, rA_sT34 hp_2, rA_sT35 hp_2, rA_sT36 hp_2, rA_sT37 hp_2, rA_sT40 hp_2, TPRp_sT hp_2, WNp_sT hp_2, VMp_sT hp_2, KYp_sT hp_2, PPp_sT hp_2, WFp_sT hp_2, CCp_sT hp_2, rNMp_sT5, PNp_sT5, rk_n0 hp_2, Ks98]); omega) | (unfold NBQ; (try simp only [reduceIte, and_true, true_and, and_false, false_and, and_self, Nat.reduceEqDiff, fz_sA, rF_sA, rA_sA, rR_sA, rF_sT, rR_sT, sT_sF, fz_sT, rA_sT26 hp_2, rA_sT27 hp_2, rA_sT34 hp_2, rA_sT35 hp_2, rA_sT36 hp_2, rA_sT37 hp_2, rA_sT40 hp_2, TPRp_sT hp_2, WNp_sT hp_2, VMp_sT hp_2, KYp_sT hp_2, PPp_sT hp_2, WFp_sT hp_2, CCp_sT hp_2, rNMp_sT5, PNp_sT5, rk_n0 hp_2, Ks98]); omega) | omega | (have zz_ := fz_z (by assumption); omega) | (split <;> omega) | done)), ?_⟩
            intro s136 Ws136 e136_0 e136_1 e136_2 e136_3 e136_4 e136_5 e136_6 e136_7 e136_8 e136_9 e136_10 e136_11 e136_12 e136_13 e136_14 e136_15 e136_16 e136_17 e136_18 e136_19 e136_20 e136_21 e136_22 R136 q136
            have q136 := dig_blanks q136 (by (try simp only [reduceIte, and_true, true_and, and_false, false_and, and_self, Nat.reduceEqDiff, fz_sA, rF_sA, rA_sA, rR_sA, rF_sT, rR_sT, sT_sF, fz_sT, rA_sT26 hp_2, rA_sT27 hp_2, rA_sT34 hp_2, rA_sT35 hp_2, rA_sT36 hp_2, rA_sT37 hp_2, rA_sT40 hp_2, TPRp_sT hp_2, WNp_sT hp_2, VMp_sT hp_2, KYp_sT hp_2, PPp_sT hp_2, WFp_sT hp_2, CCp_sT hp_2, rNMp_sT5, PNp_sT5, rk_n0 hp_2, Ks98]); omega)
            obtain ⟨q136_1, q136_2⟩ := q136
            (try simp only [reduceIte, and_true, true_and, and_false, false_and, and_self, Nat.reduceEqDiff, fz_sA, rF_sA, rA_sA, rR_sA, rF_sT, rR_sT, sT_sF, fz_sT, rA_sT26 hp_2, rA_sT27 hp_2, rA_sT34 hp_2, rA_sT35 hp_2, rA_sT36 hp_2, rA_sT37 hp_2, rA_sT40 hp_2, TPRp_sT hp_2, WNp_sT hp_2, VMp_sT hp_2, KYp_sT hp_2, PPp_sT hp_2, WFp_sT hp_2, CCp_sT hp_2, rNMp_sT5, PNp_sT5, rk_n0 hp_2, Ks98, NBP, NBQ] at q136_1 q136_2 e136_0 e136_1 e136_2 e136_3 e136_4 e136_5 e136_6 e136_7 e136_8 e136_9 e136_10 e136_11 e136_12 e136_13 e136_14 e136_15 e136_16 e136_17 e136_18 e136_19 e136_20 e136_21 e136_22 R136)
            have Ks136 : rR s136 7 = rR σ 7 := by first | assumption | ((try simp only [rR_sF, rR_sA, rR_sT, rR_sL] at e136_0 e136_1 e136_2 e136_3 e136_4 e136_5 e136_6 e136_7 e136_8 e136_9 e136_10 e136_11 e136_12 e136_13 e136_14 e136_15 e136_16 e136_17 e136_18 e136_19 e136_20 e136_21 e136_22 R136); omega)
            have zr136 := fz_rng s136
            have zc136 : fz s136 = 0 → fz s98 = 0 := fun hf => by omega
            have A136 : Im (fz s136 = 0) (RG σ s136 (rR σ 7) 0) := fun hf => RG.trk hp_2 (A131 (zc136 hf)) R136 (Or.inr (Or.inl rfl))
            have Ou116 : Im (fz s136 = 0) _ := fun hf => OP.gk0 (Ou114 (zc136 hf)) (GK.up (g := gs131) (N := rF (sT s98 (rR σ 7) 5 y52_2 v98) (rR σ 7) 7) (N' := rF s136 (rR σ 7) 7) (c := 0) (by first | assumption | omega | (simp only [rF_sT, rF_sA]; omega)))
            have Lu117 : Im (fz s136 = 0) _ := fun hf => LI.gk0 hp_2 (Lu115 (zc136 hf)) (Ou114 (zc136 hf)) R136 (GK.up (g := gs131) (N := rF (sT s98 (rR σ 7) 5 y52_2 v98) (rR σ 7) 7) (N' := rF s136 (rR σ 7) 7) (c := 0) (by first | assumption | omega | (simp only [rF_sT, rF_sA]; omega)))
            have Ku118 : Im (fz s136 = 0) (GK g gs131 (rF σ (rR σ 7) 7) (rF s136 (rR σ 7) 7) 0) := fun hf => GK.trans (Ku112 (zc136 hf)) (GK.up (N := rF (sT s98 (rR σ 7) 5 y52_2 v98) (rR σ 7) 7) (N' := rF s136 (rR σ 7) 7) (c := 0) (by first | assumption | omega | (simp only [rF_sT, rF_sA]; omega))) (Or.inr (Or.inl rfl))
            have Gu119 : Im (fz s136 = 0) (GS s136 (rR σ 7) gs131) := fun hf => GS.mv hp_2 (Gu113 (zc136 hf)) R136 (by first | assumption | omega | (simp only [rF_sT, rF_sA]; omega)) (by first | (exact Int.le_of_eq (Eq.symm (by assumption))) | omega | (simp only [rF_sT, rF_sA]; omega))
            have rNMp_136 := e136_0 rNMp_98; clear e136_0
            have TPRp_136 := e136_1 TPRp_98; clear e136_1
            have WNp_136 := e136_2 WNp_98; clear e136_2
            have PNp_136 := e136_3 PNp_98; clear e136_3
            have CCp_136 := e136_4 CCp_98; clear e136_4
            refine ⟨(by (try simp only [pre_X14_here, Ks136]); (all_goals (repeat' (first | with_reducible intro _ | with_reducible apply And.intro | with_reducible refine Exists.intro gs131 ?_ | with_reducible refine Im.and ?_ ?_))); all_goals (first | assumption | trivial | ((with_reducible refine Im.i fun hf_ => ?_); first | exact (A136 hf_) | exact (Gu119 hf_) | exact (Ku118 hf_) | exact (Ou116 hf_).cst | exact (Lu117 hf_) | exact ok1.i | (exact LI.z (fun h => absurd h (by decide))) | (exact absurd hf_ (by omega)) | omega) | (unfold NBP; (try simp only [Ks136]); omega) | (unfold NBQ; (try simp only [Ks136]); omega) | omega | (have zz_ := fz_z (by assumption); omega) | (split <;> omega) | done)), ?_⟩
            intro v140 hv140 q140
            unfold rng at hv140
            unfold post_X14_here at q140
            obtain ⟨q140_1, q140_2⟩ := q140
            (try simp only [Ks136, NBP, NBQ] at q140_1 q140_2)
            refine ⟨fun c145 => ?_, fun c145 => ?_⟩
            · exact (by (try simp only [inv_X14_readRow_52, mu_X14_readRow_52, mu_X14_readRow_52, Ks136]); (all_goals (repeat' (first | with_reducible intro _ | with_reducible apply And.intro | with_reducible refine Exists.intro gs131 ?_ | with_reducible refine Im.and ?_ ?_))); all_goals (first | assumption | trivial | ((with_reducible refine Im.i fun hf_ => ?_); first | exact (A136 hf_) | exact (Gu119 hf_) | exact (Ku118 hf_) | exact (Ou116 hf_).cst | exact (Lu117 hf_) | exact ok1.i | (exact LI.z (fun h => absurd h (by decide))) | (exact absurd hf_ (by omega)) | omega) | (unfold NBP; (try simp only [Ks136]); omega) | (unfold NBQ; (try simp only [Ks136]); omega) | omega | (have zz_ := fz_z (by assumption); omega) | (split <;> omega) | done))
            · intro hr_; unfold rng at hr_
              refine ⟨(by (try simp only [rng, Ks136]); (all_goals (repeat' (first | with_reducible intro _ | with_reducible apply And.intro | with_reducible refine Exists.intro gs131 ?_ | with_reducible refine Im.and ?_ ?_))); all_goals (first | assumption | trivial | ((with_reducible refine Im.i fun hf_ => ?_); first | exact (A136 hf_) | exact (Gu119 hf_) | exact (Ku118 hf_) | exact (Ou116 hf_).cst | exact (Lu117 hf_) | exact ok1.i | (exact LI.z (fun h => absurd h (by decide))) | (exact absurd hf_ (by omega)) | omega) | (unfold NBP; (try simp only [Ks136]); omega) | (unfold NBQ; (try simp only [Ks136]); omega) | omega | (have zz_ := fz_z (by assumption); omega) | (split <;> omega) | done)), ?_⟩
              exact (by (try simp only [inv_X14_readRow_52, mu_X14_readRow_52, mu_X14_readRow_52, reduceIte, and_true, true_and, and_false, false_and, and_self, Nat.reduceEqDiff, fz_sF29, rF_sF, rA_sF, rR_sF, tr_sF, rNMp_sF, PNp_sF, GS_F29, OP_F29, NR_F29, LI_F29, RG_l29, RG_r29, TPRp_sF29, WNp_sF29, VMp_sF29, KYp_sF29, PPp_sF29, WFp_sF29, CCp_sF29, rk_n0 hp_2, Ks136]); (all_goals (repeat' (first | with_reducible intro _ | with_reducible apply And.intro | with_reducible refine Exists.intro gs131 ?_ | with_reducible refine Im.and ?_ ?_))); all_goals (first | assumption | trivial | ((with_reducible refine Im.i fun hf_ => ?_); first | exact (A136 hf_) | exact (Gu119 hf_) | exact (Ku118 hf_) | exact (Ou116 hf_).cst | exact (Lu117 hf_) | exact ok1.i | (exact LI.z (fun h => absurd h (by decide))) | (exact absurd hf_ (by omega)) | omega) | (unfold NBP; (try simp only [reduceIte, and_true, true_and, and_false, false_and, and_self, Nat.reduceEqDiff, fz_sF29, rF_sF, rA_sF, rR_sF, tr_sF, rNMp_sF, PNp_sF, GS_F29, OP_F29, NR_F29, LI_F29, RG_l29, RG_r29, TPRp_sF29, WNp_sF29, VMp_sF29, KYp_sF29, PPp_sF29, WFp_sF29, CCp_sF29, rk_n0 hp_2, Ks136]); omega) | (unfold NBQ; (try simp only [reduceIte, and_true, true_and, and_false, false_and, and_self, Nat.reduceEqDiff, fz_sF29, rF_sF, rA_sF, rR_sF, tr_sF, rNMp_sF, PNp_sF, GS_F29, OP_F29, NR_F29, LI_F29, RG_l29, RG_r29, TPRp_sF29, WNp_sF29, VMp_sF29, KYp_sF29, PPp_sF29, WFp_sF29, CCp_sF29, rk_n0 hp_2, Ks136]); omega) | omega | (have zz_ := fz_z (by assumption); omega) | (split <;> omega) | done))
          · refine ⟨(by (try simp only [Ks98]); (all_goals (repeat' (first | with_reducible intro _ | with_reducible apply And.intro | with_reducible refine Exists.intro g98 ?_ | with_reducible refine Im.and ?_ ?_))); all_goals (first | assumption | trivial | ((with_reducible refine Im.i fun hf_ => ?_); first | exact (A98 hf_) | exact (Gu104 hf_) | exact (Ku103 hf_) | exact (Ou101 hf_).cst | exact (Lu102 hf_) | exact (O98 hf_).cst | exact ok1.i | (exact LI.z (fun h => absurd h (by decide))) | (exact absurd hf_ (by omega)) | omega) | (unfold NBP; (try simp only [Ks98]); omega) | (unfold NBQ; (try simp only [Ks98]); omega) | omega | (have zz_ := fz_z (by assumption); omega) | (split <;> omega) | done)), ?_⟩
            obtain ⟨gu120, Xu121⟩ := EC_60 (P := fz s98 = 0) (rF s64 0 29) Gu104 O98 (fun hf => by omega)
            have Ou122 : Im (fz s98 = 0) _ := fun hf => OP.kc (Ou101 hf) (Xu121 hf).2.2 (by omega)
            have Lu123 : Im (fz s98 = 0) _ := fun hf => LI.kc (Lu102 hf) (Xu121 hf).2.2
            have O98u124 : Im (fz s98 = 0) _ := fun hf => (Xu121 hf).2.1
            have Ku125 : Im (fz s98 = 0) (GK g gu120 (rF σ (rR σ 7) 7) (rF s98 (rR σ 7) 7) 0) := fun hf => GK.kc (Ku103 hf) (Xu121 hf).2.2 (by omega)
            have Gu126 : Im (fz s98 = 0) _ := fun hf => (Xu121 hf).1
            have A117 : Im (fz s98 = 0) (RG σ (sT s98 (rR σ 7) 1 y52_1 v98) (rR σ 7) 0) := fun hf => RG.tst (f := 1) (i := y52_1) (x := v98) hp_2 (A98 hf) (by decide) (by omega)
            obtain ⟨gs117, Xs117⟩ := EH_1_34 (P := fz s98 = 0) hp_2 Gu126 Ou122 Lu123 O98u124 (fun _ h => h) (fun hf => by omega)
            have Ku127 : Im (fz s98 = 0) (GK g gs117 (rF σ (rR σ 7) 7) (rF s98 (rR σ 7) 7) 0) := fun hf => GK.ks (Ku125 hf) (Xs117 hf).2.2.2.1 (by omega) (by omega)
            have Gu128 : Im (fz s98 = 0) _ := fun hf => (Xs117 hf).1
            have Ou129 : Im (fz s98 = 0) _ := fun hf => (Xs117 hf).2.1
            have Lu130 : Im (fz s98 = 0) _ := fun hf => (Xs117 hf).2.2.1
            refine ⟨(by (try simp only [pre_X14_blanks, reduceIte, and_true, true_and, and_false, false_and, and_self, Nat.reduceEqDiff, fz_sA, rF_sA, rA_sA, rR_sA, rF_sT, rR_sT, sT_sF, fz_sT, rA_sT26 hp_2, rA_sT27 hp_2, rA_sT34 hp_2, rA_sT35 hp_2, rA_sT36 hp_2, rA_sT37 hp_2, rA_sT40 hp_2, TPRp_sT hp_2, WNp_sT hp_2, VMp_sT hp_2, KYp_sT hp_2, PPp_sT hp_2, WFp_sT hp_2, CCp_sT hp_2, rNMp_sT1, PNp_sT1, rk_n0 hp_2, Ks98]); (all_goals (repeat' (first | with_reducible intro _ | with_reducible apply And.intro | with_reducible refine Exists.intro gs117 ?_ | with_reducible refine Im.and ?_ ?_))); all_goals (first | assumption | trivial | ((with_reducible refine Im.i fun hf_ => ?_); first | exact (A117 hf_) | exact (Gu128 hf_) | exact (Ku127 hf_) | exact (Ou129 hf_).cst | exact (Lu130 hf_) | exact ok1.i | (exact LI.z (fun h => absurd h (by decide))) | (exact absurd hf_ (by omega)) | omega) | (unfold NBP; (try simp only [reduceIte, and_true, true_and, and_false, false_and, and_self, Nat.reduceEqDiff, fz_sA, rF_sA, rA_sA, rR_sA, rF_sT, rR_sT, sT_sF, fz_sT, rA_sT26 hp_2, rA_sT27 hp_2, rA_sT34 hp_2, rA_sT35 hp_2, rA_sT36 hp_2, rA_sT37 hp_2, rA_sT40 hp_2, TPRp_sT hp_2, WNp_sT hp_2, VMp_sT hp_2, KYp_sT hp_2, PPp_sT hp_2, WFp_sT hp_2, CCp_sT hp_2, rNMp_sT1, PNp_sT1, rk_n0 hp_2, Ks98]); omega) | (unfold NBQ; (try simp only [reduceIte, and_true, true_and, and_false, false_and, and_self, Nat.reduceEqDiff, fz_sA, rF_sA, rA_sA, rR_sA, rF_sT, rR_sT, sT_sF, fz_sT, rA_sT26 hp_2, rA_sT27 hp_2, rA_sT34 hp_2, rA_sT35 hp_2, rA_sT36 hp_2, rA_sT37 hp_2, rA_sT40 hp_2, TPRp_sT hp_2, WNp_sT hp_2, VMp_sT hp_2, KYp_sT hp_2, PPp_sT hp_2, WFp_sT hp_2, CCp_sT hp_2, rNMp_sT1, PNp_sT1, rk_n0 hp_2, Ks98]); omega) | omega | (have zz_ := fz_z (by assumption); omega) | (split <;> omega) | done)), ?_⟩
            intro s136 Ws136 e136_0 e136_1 e136_2 e136_3 e136_4 e136_5 e136_6 e136_7 e136_8 e136_9 e136_10 e136_11 e136_12 e136_13 e136_14 e136_15 e136_16 e136_17 e136_18 e136_19 e136_20 e136_21 e136_22 R136 q136
            have q136 := dig_blanks q136 (by (try simp only [reduceIte, and_true, true_and, and_false, false_and, and_self, Nat.reduceEqDiff, fz_sA, rF_sA, rA_sA, rR_sA, rF_sT, rR_sT, sT_sF, fz_sT, rA_sT26 hp_2, rA_sT27 hp_2, rA_sT34 hp_2, rA_sT35 hp_2, rA_sT36 hp_2, rA_sT37 hp_2, rA_sT40 hp_2, TPRp_sT hp_2, WNp_sT hp_2, VMp_sT hp_2, KYp_sT hp_2, PPp_sT hp_2, WFp_sT hp_2, CCp_sT hp_2, rNMp_sT1, PNp_sT1, rk_n0 hp_2, Ks98]); omega)
            obtain ⟨q136_1, q136_2⟩ := q136
            (try simp only [reduceIte, and_true, true_and, and_false, false_and, and_self, Nat.reduceEqDiff, fz_sA, rF_sA, rA_sA, rR_sA, rF_sT, rR_sT, sT_sF, fz_sT, rA_sT26 hp_2, rA_sT27 hp_2, rA_sT34 hp_2, rA_sT35 hp_2, rA_sT36 hp_2, rA_sT37 hp_2, rA_sT40 hp_2, TPRp_sT hp_2, WNp_sT hp_2, VMp_sT hp_2, KYp_sT hp_2, PPp_sT hp_2, WFp_sT hp_2, CCp_sT hp_2, rNMp_sT1, PNp_sT1, rk_n0 hp_2, Ks98, NBP, NBQ] at q136_1 q136_2 e136_0 e136_1 e136_2 e136_3 e136_4 e136_5 e136_6 e136_7 e136_8 e136_9 e136_10 e136_11 e136_12 e136_13 e136_14 e136_15 e136_16 e136_17 e136_18 e136_19 e136_20 e136_21 e136_22 R136)
            have Ks136 : rR s136 7 = rR σ 7 := by first | assumption | ((try simp only [rR_sF, rR_sA, rR_sT, rR_sL] at e136_0 e136_1 e136_2 e136_3 e136_4 e136_5 e136_6 e136_7 e136_8 e136_9 e136_10 e136_11 e136_12 e136_13 e136_14 e136_15 e136_16 e136_17 e136_18 e136_19 e136_20 e136_21 e136_22 R136); omega)
            have zr136 := fz_rng s136
            have zc136 : fz s136 = 0 → fz s98 = 0 := fun hf => by omega
            have A136 : Im (fz s136 = 0) (RG σ s136 (rR σ 7) 0) := fun hf => RG.trk hp_2 (A117 (zc136 hf)) R136 (Or.inr (Or.inl rfl))
            have Ou131 : Im (fz s136 = 0) _ := fun hf => OP.gk0 (Ou129 (zc136 hf)) (GK.up (g := gs117) (N := rF (sT s98 (rR σ 7) 1 y52_1 v98) (rR σ 7) 7) (N' := rF s136 (rR σ 7) 7) (c := 0) (by first | assumption | omega | (simp only [rF_sT, rF_sA]; omega)))
            have Lu132 : Im (fz s136 = 0) _ := fun hf => LI.gk0 hp_2 (Lu130 (zc136 hf)) (Ou129 (zc136 hf)) R136 (GK.up (g := gs117) (N := rF (sT s98 (rR σ 7) 1 y52_1 v98) (rR σ 7) 7) (N' := rF s136 (rR σ 7) 7) (c := 0) (by first | assumption | omega | (simp only [rF_sT, rF_sA]; omega)))
            have Ku133 : Im (fz s136 = 0) (GK g gs117 (rF σ (rR σ 7) 7) (rF s136 (rR σ 7) 7) 0) := fun hf => GK.trans (Ku127 (zc136 hf)) (GK.up (N := rF (sT s98 (rR σ 7) 1 y52_1 v98) (rR σ 7) 7) (N' := rF s136 (rR σ 7) 7) (c := 0) (by first | assumption | omega | (simp only [rF_sT, rF_sA]; omega))) (Or.inr (Or.inl rfl))
            have Gu134 : Im (fz s136 = 0) (GS s136 (rR σ 7) gs117) := fun hf => GS.mv hp_2 (Gu128 (zc136 hf)) R136 (by first | assumption | omega | (simp only [rF_sT, rF_sA]; omega)) (by first | (exact Int.le_of_eq (Eq.symm (by assumption))) | omega | (simp only [rF_sT, rF_sA]; omega))
            have rNMp_136 := e136_0 rNMp_98; clear e136_0
            have TPRp_136 := e136_1 TPRp_98; clear e136_1
            have WNp_136 := e136_2 WNp_98; clear e136_2
            have PNp_136 := e136_3 PNp_98; clear e136_3
            have CCp_136 := e136_4 CCp_98; clear e136_4
            refine ⟨(by (try simp only [pre_X14_here, Ks136]); (all_goals (repeat' (first | with_reducible intro _ | with_reducible apply And.intro | with_reducible refine Exists.intro gs117 ?_ | with_reducible refine Im.and ?_ ?_))); all_goals (first | assumption | trivial | ((with_reducible refine Im.i fun hf_ => ?_); first | exact (A136 hf_) | exact (Gu134 hf_) | exact (Ku133 hf_) | exact (Ou131 hf_).cst | exact (Lu132 hf_) | exact ok1.i | (exact LI.z (fun h => absurd h (by decide))) | (exact absurd hf_ (by omega)) | omega) | (unfold NBP; (try simp only [Ks136]); omega) | (unfold NBQ; (try simp only [Ks136]); omega) | omega | (have zz_ := fz_z (by assumption); omega) | (split <;> omega) | done)), ?_⟩
            intro v140 hv140 q140
            unfold rng at hv140
            unfold post_X14_here at q140
            obtain ⟨q140_1, q140_2⟩ := q140
            (try simp only [Ks136, NBP, NBQ] at q140_1 q140_2)
            refine ⟨fun c145 => ?_, fun c145 => ?_⟩
            · exact (by (try simp only [inv_X14_readRow_52, mu_X14_readRow_52, mu_X14_readRow_52, Ks136]); (all_goals (repeat' (first | with_reducible intro _ | with_reducible apply And.intro | with_reducible refine Exists.intro gs117 ?_ | with_reducible refine Im.and ?_ ?_))); all_goals (first | assumption | trivial | ((with_reducible refine Im.i fun hf_ => ?_); first | exact (A136 hf_) | exact (Gu134 hf_) | exact (Ku133 hf_) | exact (Ou131 hf_).cst | exact (Lu132 hf_) | exact ok1.i | (exact LI.z (fun h => absurd h (by decide))) | (exact absurd hf_ (by omega)) | omega) | (unfold NBP; (try simp only [Ks136]); omega) | (unfold NBQ; (try simp only [Ks136]); omega) | omega | (have zz_ := fz_z (by assumption); omega) | (split <;> omega) | done))
            · intro hr_; unfold rng at hr_
              refine ⟨(by (try simp only [rng, Ks136]); (all_goals (repeat' (first | with_reducible intro _ | with_reducible apply And.intro | with_reducible refine Exists.intro gs117 ?_ | with_reducible refine Im.and ?_ ?_))); all_goals (first | assumption | trivial | ((with_reducible refine Im.i fun hf_ => ?_); first | exact (A136 hf_) | exact (Gu134 hf_) | exact (Ku133 hf_) | exact (Ou131 hf_).cst | exact (Lu132 hf_) | exact ok1.i | (exact LI.z (fun h => absurd h (by decide))) | (exact absurd hf_ (by omega)) | omega) | (unfold NBP; (try simp only [Ks136]); omega) | (unfold NBQ; (try simp only [Ks136]); omega) | omega | (have zz_ := fz_z (by assumption); omega) | (split <;> omega) | done)), ?_⟩
              exact (by (try simp only [inv_X14_readRow_52, mu_X14_readRow_52, mu_X14_readRow_52, reduceIte, and_true, true_and, and_false, false_and, and_self, Nat.reduceEqDiff, fz_sF29, rF_sF, rA_sF, rR_sF, tr_sF, rNMp_sF, PNp_sF, GS_F29, OP_F29, NR_F29, LI_F29, RG_l29, RG_r29, TPRp_sF29, WNp_sF29, VMp_sF29, KYp_sF29, PPp_sF29, WFp_sF29, CCp_sF29, rk_n0 hp_2, Ks136]); (all_goals (repeat' (first | with_reducible intro _ | with_reducible apply And.intro | with_reducible refine Exists.intro gs117 ?_ | with_reducible refine Im.and ?_ ?_))); all_goals (first | assumption | trivial | ((with_reducible refine Im.i fun hf_ => ?_); first | exact (A136 hf_) | exact (Gu134 hf_) | exact (Ku133 hf_) | exact (Ou131 hf_).cst | exact (Lu132 hf_) | exact ok1.i | (exact LI.z (fun h => absurd h (by decide))) | (exact absurd hf_ (by omega)) | omega) | (unfold NBP; (try simp only [reduceIte, and_true, true_and, and_false, false_and, and_self, Nat.reduceEqDiff, fz_sF29, rF_sF, rA_sF, rR_sF, tr_sF, rNMp_sF, PNp_sF, GS_F29, OP_F29, NR_F29, LI_F29, RG_l29, RG_r29, TPRp_sF29, WNp_sF29, VMp_sF29, KYp_sF29, PPp_sF29, WFp_sF29, CCp_sF29, rk_n0 hp_2, Ks136]); omega) | (unfold NBQ; (try simp only [reduceIte, and_true, true_and, and_false, false_and, and_self, Nat.reduceEqDiff, fz_sF29, rF_sF, rA_sF, rR_sF, tr_sF, rNMp_sF, PNp_sF, GS_F29, OP_F29, NR_F29, LI_F29, RG_l29, RG_r29, TPRp_sF29, WNp_sF29, VMp_sF29, KYp_sF29, PPp_sF29, WFp_sF29, CCp_sF29, rk_n0 hp_2, Ks136]); omega) | omega | (have zz_ := fz_z (by assumption); omega) | (split <;> omega) | done))
set_option maxHeartbeats 20000000 in
theorem vX14_readRow_52m (n : Nat) (σ : rS) (gg : Nat) (g : Nat → Int → Int) (hwf : rWF σ) (hp : pre_X14_readRow σ gg g) (hr : rk_X14_readRow σ gg g ≤ n + 1) : VC_X14_readRow_52m n σ gg g := by
  unfold pre_X14_readRow at hp
  obtain ⟨hp_1, hp_2, hp_3, hp_4, hp_5, hp_6, hp_7, hp_8, hp_9, hp_10⟩ := hp
  subst hp_1
  unfold rk_X14_readRow at hr
  have hN := hp_4
  unfold NBP at hN
  have hC := hp_3
  unfold CCp at hC
  obtain ⟨hC1, hC⟩ := hC
  have zr0 := fz_rng σ
  have hr2 : fz σ = 0 → 16 * (21 - rF σ 0 31).toNat + 4 ≤ n + 1 := fun h => by rw [if_pos h] at hr; exact hr
  have hr3 : 4 ≤ n + 1 := by have := hr; split at this <;> omega
  clear hr
  unfold VC_X14_readRow_52m
  (try simp only [inv_X14_readRow_52, mu_X14_readRow_52]); (all_goals (repeat' (first | with_reducible intro _ | with_reducible apply And.intro))); all_goals (first | assumption | omega | grind (splits := 20))
