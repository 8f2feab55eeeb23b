set_option maxHeartbeats 4000000 in
theorem vX14_readRow (n : Nat) (σ : rS) (gg : Nat) (hwf : rWF σ) (hp : pre_X14_readRow σ gg) (hr : rk_X14_readRow σ gg ≤ n + 1) : VC_X14_readRow n σ gg (post_X14_readRow σ gg) := by
  unfold pre_X14_readRow at hp
  obtain ⟨hp_1, hp_2, hp_3, hp_4, hp_5, hp_6, hp_7, hp_8, hp_9⟩ := hp
  subst hp_1
  unfold rk_X14_readRow at hr
  have hN := hp_4
  unfold NBP at hN
  have hC := hp_3
  unfold CCp at hC
  obtain ⟨hC1, hC⟩ := hC
  have zr0 := fz_rng σ
  have hr2 : fz σ = 0 → 16 * (21 - rF σ 0 31).toNat + 4 ≤ n + 1 := fun h => by rw [if_pos h] at hr; exact hr
  have hr3 : 4 ≤ n + 1 := by have := hr; split at this <;> omega
  clear hr
  unfold VC_X14_readRow
  refine ⟨(by (all_goals (repeat' (first | with_reducible intro _ | with_reducible apply And.intro))); all_goals (first | assumption | trivial | (unfold NBP; omega) | (unfold NBQ; omega) | omega | (exact fun hf_ => absurd hf_ (by omega)) | (split <;> omega) | done)), ?_⟩
  refine ⟨(by (try simp only [pre_X14_place]); (all_goals (repeat' (first | with_reducible intro _ | with_reducible apply And.intro))); all_goals (first | assumption | trivial | (unfold NBP; omega) | (unfold NBQ; omega) | omega | (exact fun hf_ => ((fun _ => RG.rf) (by omega))) | (exact fun hf_ => absurd hf_ (by omega)) | (split <;> omega) | done)), ?_⟩
  intro v6 hv6 q6
  unfold rng at hv6
  unfold post_X14_place at q6
  obtain ⟨q6_1, q6_2⟩ := q6
  (try simp only [NBP, NBQ] at q6_1 q6_2)
  refine ⟨(by (try simp only [pre_X14_node_t]); (all_goals (repeat' (first | with_reducible intro _ | with_reducible apply And.intro))); all_goals (first | assumption | trivial | (unfold NBP; omega) | (unfold NBQ; omega) | omega | (exact fun hf_ => ((fun _ => RG.rf) (by omega))) | (exact fun hf_ => absurd hf_ (by omega)) | (split <;> omega) | done)), ?_⟩
  intro v9 s9 hv9 Ws9 e9_0 e9_1 e9_2 e9_3 e9_4 e9_5 e9_6 e9_7 e9_8 e9_9 e9_10 e9_11 e9_12 e9_13 e9_14 e9_15 e9_16 e9_17 e9_18 e9_19 e9_20 e9_21 e9_22 q9
  unfold rng at hv9
  unfold post_X14_node_t at q9
  obtain ⟨q9_1, q9_2, q9_3, q9_4, q9_5, q9_6, q9_7, q9_8, q9_9⟩ := q9
  (try simp only [NBP, NBQ] at q9_1 q9_2 q9_3 q9_4 q9_5 q9_6 q9_7 q9_8 q9_9 e9_0 e9_1 e9_2 e9_3 e9_4 e9_5 e9_6 e9_7 e9_8 e9_9 e9_10 e9_11 e9_12 e9_13 e9_14 e9_15 e9_16 e9_17 e9_18 e9_19 e9_20 e9_21 e9_22)
  have Ks9 : rR s9 7 = rR σ 7 := by (try simp only [rR_sF, rR_sA, rR_sT, rR_sL] at e9_0 e9_1 e9_2 e9_3 e9_4 e9_5 e9_6 e9_7 e9_8 e9_9 e9_10 e9_11 e9_12 e9_13 e9_14 e9_15 e9_16 e9_17 e9_18 e9_19 e9_20 e9_21 e9_22); omega
  have zr9 := fz_rng s9
  have A9 : Im (fz s9 = 0) (RG σ s9 (rR σ 7) 0) := fun hf => RG.trk hp_2 ((fun _ => RG.rf) (by omega)) q9_3 (by omega)
  have rNMp_9 := e9_0 hp_5; clear e9_0
  have TPRp_9 := e9_1 hC1; clear e9_1
  have WNp_9 := e9_2 hp_6; clear e9_2
  have PNp_9 := e9_3 hp_7; clear e9_3
  have CCp_9 := e9_4 hp_3; clear e9_4
  have I0_h21 : Im (fz s9 = 0) (tr s9 (rR σ 7) 0 v9 = 34) := fun hf => q9_4
  have I1_h22 : Im (fz s9 = 0) (tr s9 (rR σ 7) 1 v9 = 0) := fun hf => q9_5
  have I5_h23 : Im (fz s9 = 0) (tr s9 (rR σ 7) 5 v9 = 0) := fun hf => q9_9
  intro hr_; unfold rng at hr_
  refine ⟨(by (try simp only [rng, Ks9]); (all_goals (repeat' (first | with_reducible intro _ | with_reducible apply And.intro))); all_goals (first | assumption | trivial | (unfold NBP; (try simp only [Ks9]); omega) | (unfold NBQ; (try simp only [Ks9]); omega) | omega | (exact fun hf_ => (A9 (by omega))) | (exact fun hf_ => I0_h21 (by omega)) | (exact fun hf_ => I1_h22 (by omega)) | (exact fun hf_ => I5_h23 (by omega)) | (exact fun hf_ => absurd hf_ (by omega)) | (split <;> omega) | done)), ?_⟩
  refine ⟨(by (try simp only [pre_X14_blanks, reduceIte, and_true, true_and, and_false, false_and, and_self, Nat.reduceEqDiff, fz_sF29, rF_sF, rA_sF, rR_sF, tr_sF, TS_sF, LQ_sF, MI_sF, IG_sF, HQ_sF, OQ_sF, rNMp_sF, PNp_sF, RG_l29, RG_r29, TPRp_sF29, WNp_sF29, VMp_sF29, KYp_sF29, PPp_sF29, WFp_sF29, CCp_sF29, rk_n0 hp_2, Ks9]); (all_goals (repeat' (first | with_reducible intro _ | with_reducible apply And.intro))); all_goals (first | assumption | trivial | (unfold NBP; (try simp only [reduceIte, and_true, true_and, and_false, false_and, and_self, Nat.reduceEqDiff, fz_sF29, rF_sF, rA_sF, rR_sF, tr_sF, TS_sF, LQ_sF, MI_sF, IG_sF, HQ_sF, OQ_sF, rNMp_sF, PNp_sF, RG_l29, RG_r29, TPRp_sF29, WNp_sF29, VMp_sF29, KYp_sF29, PPp_sF29, WFp_sF29, CCp_sF29, rk_n0 hp_2, Ks9]); omega) | (unfold NBQ; (try simp only [reduceIte, and_true, true_and, and_false, false_and, and_self, Nat.reduceEqDiff, fz_sF29, rF_sF, rA_sF, rR_sF, tr_sF, TS_sF, LQ_sF, MI_sF, IG_sF, HQ_sF, OQ_sF, rNMp_sF, PNp_sF, RG_l29, RG_r29, TPRp_sF29, WNp_sF29, VMp_sF29, KYp_sF29, PPp_sF29, WFp_sF29, CCp_sF29, rk_n0 hp_2, Ks9]); omega) | omega | (exact fun hf_ => (A9 (by omega))) | (exact fun hf_ => I0_h21 (by omega)) | (exact fun hf_ => I1_h22 (by omega)) | (exact fun hf_ => I5_h23 (by omega)) | (exact fun hf_ => absurd hf_ (by omega)) | (split <;> omega) | done)), ?_⟩
  intro s24 Ws24 e24_0 e24_1 e24_2 e24_3 e24_4 e24_5 e24_6 e24_7 e24_8 e24_9 e24_10 e24_11 e24_12 e24_13 e24_14 e24_15 e24_16 e24_17 e24_18 e24_19 e24_20 e24_21 e24_22 R24 q24
  have q24 := dig_blanks q24 (by (try simp only [reduceIte, and_true, true_and, and_false, false_and, and_self, Nat.reduceEqDiff, fz_sF29, rF_sF, rA_sF, rR_sF, tr_sF, TS_sF, LQ_sF, MI_sF, IG_sF, HQ_sF, OQ_sF, rNMp_sF, PNp_sF, RG_l29, RG_r29, TPRp_sF29, WNp_sF29, VMp_sF29, KYp_sF29, PPp_sF29, WFp_sF29, CCp_sF29, rk_n0 hp_2, Ks9]); omega)
  obtain ⟨q24_1, q24_2⟩ := q24
  (try simp only [reduceIte, and_true, true_and, and_false, false_and, and_self, Nat.reduceEqDiff, fz_sF29, rF_sF, rA_sF, rR_sF, tr_sF, TS_sF, LQ_sF, MI_sF, IG_sF, HQ_sF, OQ_sF, rNMp_sF, PNp_sF, RG_l29, RG_r29, TPRp_sF29, WNp_sF29, VMp_sF29, KYp_sF29, PPp_sF29, WFp_sF29, CCp_sF29, rk_n0 hp_2, Ks9, NBP, NBQ] at q24_1 q24_2 e24_0 e24_1 e24_2 e24_3 e24_4 e24_5 e24_6 e24_7 e24_8 e24_9 e24_10 e24_11 e24_12 e24_13 e24_14 e24_15 e24_16 e24_17 e24_18 e24_19 e24_20 e24_21 e24_22 R24)
  have Ks24 : rR s24 7 = rR σ 7 := by (try simp only [rR_sF, rR_sA, rR_sT, rR_sL] at e24_0 e24_1 e24_2 e24_3 e24_4 e24_5 e24_6 e24_7 e24_8 e24_9 e24_10 e24_11 e24_12 e24_13 e24_14 e24_15 e24_16 e24_17 e24_18 e24_19 e24_20 e24_21 e24_22 R24); omega
  have zr24 := fz_rng s24
  have A24 : Im (fz s24 = 0) (RG σ s24 (rR σ 7) 0) := fun hf => RG.trk hp_2 (A9 (by omega)) R24 (by omega)
  have I0_24 : Im (fz s24 = 0) _ := fun hf => (RG.fA hp_2 R24).trans (I0_h21 (by omega))
  have I1_24 : Im (fz s24 = 0) _ := fun hf => (RG.fA hp_2 R24).trans (I1_h22 (by omega))
  have I5_24 : Im (fz s24 = 0) _ := fun hf => (RG.fA hp_2 R24).trans (I5_h23 (by omega))
  have rNMp_24 := e24_0 rNMp_9; clear e24_0
  have TPRp_24 := e24_1 TPRp_9; clear e24_1
  have WNp_24 := e24_2 WNp_9; clear e24_2
  have PNp_24 := e24_3 PNp_9; clear e24_3
  have CCp_24 := e24_4 CCp_9; clear e24_4
  refine ⟨(by (try simp only [pre_X14_here, Ks24]); (all_goals (repeat' (first | with_reducible intro _ | with_reducible apply And.intro))); all_goals (first | assumption | trivial | (unfold NBP; (try simp only [Ks24]); omega) | (unfold NBQ; (try simp only [Ks24]); omega) | omega | (exact fun hf_ => (A24 (by omega))) | (exact fun hf_ => I0_24 (by omega)) | (exact fun hf_ => I1_24 (by omega)) | (exact fun hf_ => I5_24 (by omega)) | (exact fun hf_ => absurd hf_ (by omega)) | (split <;> omega) | done)), ?_⟩
  intro v28 hv28 q28
  unfold rng at hv28
  unfold post_X14_here at q28
  obtain ⟨q28_1, q28_2⟩ := q28
  (try simp only [Ks24, NBP, NBQ] at q28_1 q28_2)
  refine ⟨fun c33 => ?_, fun c33 => ?_⟩
  · have F_h49 : Im (fz s24 = 0) (OQ s24 (rR σ 7) 7 1 v9 0 (rF σ 0 31) 0 (v9 + 1) (rF σ (rR σ 7) 32) (rF s24 (rR σ 7) 7) (rF s24 (rR σ 7) 32)) := fun hf => (OQ.init (I1_24 hf) (d := (rF σ 0 31)) (lo := v9 + 1) (u := (rF σ (rR σ 7) 32)) (hi := (rF s24 (rR σ 7) 7))).cst
    exact (by (try simp only [inv_X14_readRow_52, Ks24]); (all_goals (repeat' (first | with_reducible intro _ | with_reducible apply And.intro))); all_goals (first | assumption | trivial | (unfold NBP; (try simp only [Ks24]); omega) | (unfold NBQ; (try simp only [Ks24]); omega) | omega | (exact fun hf_ => (A24 (by omega))) | (exact fun hf_ => I0_24 (by omega)) | (exact fun hf_ => I1_24 (by omega)) | (exact fun hf_ => I5_24 (by omega)) | (exact fun hf_ => (F_h49 (by omega)).cst) | (exact fun hf_ => absurd hf_ (by omega)) | (split <;> omega) | done))
  · intro hr_; unfold rng at hr_
    refine ⟨(by (try simp only [rng, Ks24]); (all_goals (repeat' (first | with_reducible intro _ | with_reducible apply And.intro))); all_goals (first | assumption | trivial | (unfold NBP; (try simp only [Ks24]); omega) | (unfold NBQ; (try simp only [Ks24]); omega) | omega | (exact fun hf_ => (A24 (by omega))) | (exact fun hf_ => I0_24 (by omega)) | (exact fun hf_ => I1_24 (by omega)) | (exact fun hf_ => I5_24 (by omega)) | (exact fun hf_ => absurd hf_ (by omega)) | (split <;> omega) | done)), ?_⟩
    have T_h53 : Im (fz s24 = 0) (TS s24 (rR σ 7) 2 v9 0 (rF σ 0 31) 0 (rF σ (rR σ 7) 7) (rF s24 (rR σ 7) 7) 0 0 (rF σ (rR σ 7) 32) (rF s24 (rR σ 7) 32)) := fun hf => (TS.row hp_2 (I0_24 hf) (I1_24 hf) (TS.nl (d := (rF σ 0 31)) (lo := v9 + 1) (hi := v9 + 1) (u := (rF σ (rR σ 7) 32))) (lo := v9) (hi := v9 + 1)).cst
    exact (by (try simp only [post_X14_readRow, reduceIte, and_true, true_and, and_false, false_and, and_self, Nat.reduceEqDiff, fz_sF29, rF_sF, rA_sF, rR_sF, tr_sF, TS_sF, LQ_sF, MI_sF, IG_sF, HQ_sF, OQ_sF, rNMp_sF, PNp_sF, RG_l29, RG_r29, TPRp_sF29, WNp_sF29, VMp_sF29, KYp_sF29, PPp_sF29, WFp_sF29, CCp_sF29, rk_n0 hp_2, Ks24]); (all_goals (repeat' (first | with_reducible intro _ | with_reducible apply And.intro))); all_goals (first | assumption | trivial | (unfold NBP; (try simp only [reduceIte, and_true, true_and, and_false, false_and, and_self, Nat.reduceEqDiff, fz_sF29, rF_sF, rA_sF, rR_sF, tr_sF, TS_sF, LQ_sF, MI_sF, IG_sF, HQ_sF, OQ_sF, rNMp_sF, PNp_sF, RG_l29, RG_r29, TPRp_sF29, WNp_sF29, VMp_sF29, KYp_sF29, PPp_sF29, WFp_sF29, CCp_sF29, rk_n0 hp_2, Ks24]); omega) | (unfold NBQ; (try simp only [reduceIte, and_true, true_and, and_false, false_and, and_self, Nat.reduceEqDiff, fz_sF29, rF_sF, rA_sF, rR_sF, tr_sF, TS_sF, LQ_sF, MI_sF, IG_sF, HQ_sF, OQ_sF, rNMp_sF, PNp_sF, RG_l29, RG_r29, TPRp_sF29, WNp_sF29, VMp_sF29, KYp_sF29, PPp_sF29, WFp_sF29, CCp_sF29, rk_n0 hp_2, Ks24]); omega) | omega | (exact fun hf_ => (A24 (by omega))) | (exact fun hf_ => I0_24 (by omega)) | (exact fun hf_ => I1_24 (by omega)) | (exact fun hf_ => I5_24 (by omega)) | (exact fun hf_ => (T_h53 (by omega)).cst) | (exact fun hf_ => absurd hf_ (by omega)) | (split <;> omega) | done))
set_option maxHeartbeats 4000000 in
theorem vX14_readRow_52 (n : Nat) (σ : rS) (gg : Nat) (hwf : rWF σ) (hp : pre_X14_readRow σ gg) (hr : rk_X14_readRow σ gg ≤ n + 1) : VC_X14_readRow_52 n σ gg (post_X14_readRow σ gg) := by
  unfold pre_X14_readRow at hp
  obtain ⟨hp_1, hp_2, hp_3, hp_4, hp_5, hp_6, hp_7, hp_8, hp_9⟩ := hp
  subst hp_1
  unfold rk_X14_readRow at hr
  have hN := hp_4
  unfold NBP at hN
  have hC := hp_3
  unfold CCp at hC
  obtain ⟨hC1, hC⟩ := hC
  have zr0 := fz_rng σ
  have hr2 : fz σ = 0 → 16 * (21 - rF σ 0 31).toNat + 4 ≤ n + 1 := fun h => by rw [if_pos h] at hr; exact hr
  have hr3 : 4 ≤ n + 1 := by have := hr; split at this <;> omega
  clear hr
  unfold VC_X14_readRow_52
  intro s52 y52_1 y52_2 y52_3 Ws52 hy52_1 hy52_2 hy52_3 e52_0 e52_1 e52_2 e52_3 e52_4 e52_5 e52_6 e52_7 e52_8 e52_9 I52
  have Ks52 : rR s52 7 = rR σ 7 := by omega
  unfold inv_X14_readRow_52 at I52
  obtain ⟨I52_1, I52_2, I52_3, I52_4, I52_5, I52_6, I52_7, I52_8, I52_9, I52_10, I52_11, I52_12, I52_13, I52_14, I52_15, I52_16⟩ := I52
  (try simp only [Ks52, NBP, NBQ] at I52_1 I52_2 I52_3 I52_4 I52_5 I52_6 I52_7 I52_8 I52_9 I52_10 I52_11 I52_12 I52_13 I52_14 I52_15 I52_16)
  have zr52 := fz_rng s52
  have TPRp_52 := e52_0 hC1; clear e52_0
  have CCp_52 := e52_1 hp_3; clear e52_1
  refine ⟨fun c53 => ?_, fun c53 => ?_⟩
  · refine ⟨(by (try simp only [pre_X14_need, Ks52]); (all_goals (repeat' (first | with_reducible intro _ | with_reducible apply And.intro))); all_goals (first | assumption | trivial | (unfold NBP; (try simp only [Ks52]); omega) | (unfold NBQ; (try simp only [Ks52]); omega) | omega | (exact fun hf_ => (I52_5 (by omega))) | (exact fun hf_ => (I52_14 (by omega)).cst) | (exact fun hf_ => I52_15 (by omega)) | (exact fun hf_ => I52_16 (by omega)) | (exact fun hf_ => absurd hf_ (by omega)) | (split <;> omega) | done)), ?_⟩
    intro s174 Ws174 e174_0 e174_1 e174_2 e174_3 e174_4 e174_5 e174_6 e174_7 e174_8 e174_9 e174_10 e174_11 e174_12 e174_13 e174_14 e174_15 e174_16 e174_17 e174_18 e174_19 e174_20 R174 q174
    have q174 := dig_need q174 (by (try simp only [Ks52]); omega)
    obtain ⟨q174_1, q174_2, q174_3, q174_4⟩ := q174
    (try simp only [Ks52, NBP, NBQ] at q174_1 q174_2 q174_3 q174_4 e174_0 e174_1 e174_2 e174_3 e174_4 e174_5 e174_6 e174_7 e174_8 e174_9 e174_10 e174_11 e174_12 e174_13 e174_14 e174_15 e174_16 e174_17 e174_18 e174_19 e174_20 R174)
    have Ks174 : rR s174 7 = rR σ 7 := by (try simp only [rR_sF, rR_sA, rR_sT, rR_sL] at e174_0 e174_1 e174_2 e174_3 e174_4 e174_5 e174_6 e174_7 e174_8 e174_9 e174_10 e174_11 e174_12 e174_13 e174_14 e174_15 e174_16 e174_17 e174_18 e174_19 e174_20 R174); omega
    have zr174 := fz_rng s174
    have A174 : Im (fz s174 = 0) (RG σ s174 (rR σ 7) 0) := fun hf => RG.trk hp_2 (I52_5 (by omega)) R174 (by omega)
    have F_174 : Im (fz s174 = 0) _ := fun hf => OQ.rg hp_2 R174 (I52_14 (by omega))
    have I0_174 : Im (fz s174 = 0) _ := fun hf => (RG.fA hp_2 R174).trans (I52_15 (by omega))
    have I5_174 : Im (fz s174 = 0) _ := fun hf => (RG.fA hp_2 R174).trans (I52_16 (by omega))
    have rNMp_174 := e174_0 I52_2; clear e174_0
    have TPRp_174 := e174_1 TPRp_52; clear e174_1
    have WNp_174 := e174_2 I52_3; clear e174_2
    have PNp_174 := e174_3 I52_4; clear e174_3
    have CCp_174 := e174_4 CCp_52; clear e174_4
    have T_h25 : Im (fz s174 = 0) (TS s174 (rR σ 7) 2 y52_1 0 (rF σ 0 31) 0 (rF σ (rR σ 7) 7) (rF s174 (rR σ 7) 7) 0 0 (rF σ (rR σ 7) 32) (rF s174 (rR σ 7) 32)) := fun hf => (TS.row hp_2 (I0_174 hf) rfl (OQ.done (F_174 hf)) (lo := (rF σ (rR σ 7) 7)) (hi := (rF s174 (rR σ 7) 7))).cst
    exact (by (try simp only [post_X14_readRow, Ks174]); (all_goals (repeat' (first | with_reducible intro _ | with_reducible apply And.intro))); all_goals (first | assumption | trivial | (unfold NBP; (try simp only [Ks174]); omega) | (unfold NBQ; (try simp only [Ks174]); omega) | omega | (exact fun hf_ => (A174 (by omega))) | (exact fun hf_ => (F_174 (by omega)).cst) | (exact fun hf_ => I0_174 (by omega)) | (exact fun hf_ => I5_174 (by omega)) | (exact fun hf_ => (T_h25 (by omega)).cst) | (exact fun hf_ => absurd hf_ (by omega)) | (split <;> omega) | done))
  · intro hr_; unfold rng at hr_
    refine ⟨fun c60 => ?_, fun c60 => ?_⟩
    · have z60 := fz_n c60
      refine ⟨(by (try simp only [pre_X14_need, Ks52]); (all_goals (repeat' (first | with_reducible intro _ | with_reducible apply And.intro))); all_goals (first | assumption | trivial | (unfold NBP; (try simp only [Ks52]); omega) | (unfold NBQ; (try simp only [Ks52]); omega) | omega | (exact fun hf_ => (I52_5 (by omega))) | (exact fun hf_ => (I52_14 (by omega)).cst) | (exact fun hf_ => I52_15 (by omega)) | (exact fun hf_ => I52_16 (by omega)) | (exact fun hf_ => absurd hf_ (by omega)) | (split <;> omega) | done)), ?_⟩
      intro s174 Ws174 e174_0 e174_1 e174_2 e174_3 e174_4 e174_5 e174_6 e174_7 e174_8 e174_9 e174_10 e174_11 e174_12 e174_13 e174_14 e174_15 e174_16 e174_17 e174_18 e174_19 e174_20 R174 q174
      have q174 := dig_need q174 (by (try simp only [Ks52]); omega)
      obtain ⟨q174_1, q174_2, q174_3, q174_4⟩ := q174
      (try simp only [Ks52, NBP, NBQ] at q174_1 q174_2 q174_3 q174_4 e174_0 e174_1 e174_2 e174_3 e174_4 e174_5 e174_6 e174_7 e174_8 e174_9 e174_10 e174_11 e174_12 e174_13 e174_14 e174_15 e174_16 e174_17 e174_18 e174_19 e174_20 R174)
      have Ks174 : rR s174 7 = rR σ 7 := by (try simp only [rR_sF, rR_sA, rR_sT, rR_sL] at e174_0 e174_1 e174_2 e174_3 e174_4 e174_5 e174_6 e174_7 e174_8 e174_9 e174_10 e174_11 e174_12 e174_13 e174_14 e174_15 e174_16 e174_17 e174_18 e174_19 e174_20 R174); omega
      have zr174 := fz_rng s174
      have A174 : Im (fz s174 = 0) (RG σ s174 (rR σ 7) 0) := fun hf => RG.trk hp_2 (I52_5 (by omega)) R174 (by omega)
      have F_174 : Im (fz s174 = 0) _ := fun hf => OQ.rg hp_2 R174 (I52_14 (by omega))
      have I0_174 : Im (fz s174 = 0) _ := fun hf => (RG.fA hp_2 R174).trans (I52_15 (by omega))
      have I5_174 : Im (fz s174 = 0) _ := fun hf => (RG.fA hp_2 R174).trans (I52_16 (by omega))
      have rNMp_174 := e174_0 I52_2; clear e174_0
      have TPRp_174 := e174_1 TPRp_52; clear e174_1
      have WNp_174 := e174_2 I52_3; clear e174_2
      have PNp_174 := e174_3 I52_4; clear e174_3
      have CCp_174 := e174_4 CCp_52; clear e174_4
      have T_h46 : Im (fz s174 = 0) (TS s174 (rR σ 7) 2 y52_1 0 (rF σ 0 31) 0 (rF σ (rR σ 7) 7) (rF s174 (rR σ 7) 7) 0 0 (rF σ (rR σ 7) 32) (rF s174 (rR σ 7) 32)) := fun hf => (TS.row hp_2 (I0_174 hf) rfl (OQ.done (F_174 hf)) (lo := (rF σ (rR σ 7) 7)) (hi := (rF s174 (rR σ 7) 7))).cst
      exact (by (try simp only [post_X14_readRow, Ks174]); (all_goals (repeat' (first | with_reducible intro _ | with_reducible apply And.intro))); all_goals (first | assumption | trivial | (unfold NBP; (try simp only [Ks174]); omega) | (unfold NBQ; (try simp only [Ks174]); omega) | omega | (exact fun hf_ => (A174 (by omega))) | (exact fun hf_ => (F_174 (by omega)).cst) | (exact fun hf_ => I0_174 (by omega)) | (exact fun hf_ => I5_174 (by omega)) | (exact fun hf_ => (T_h46 (by omega)).cst) | (exact fun hf_ => absurd hf_ (by omega)) | (split <;> omega) | done))
    · have z60 := fz_z c60
      refine ⟨(by (try simp only [pre_X14_blanks, Ks52]); (all_goals (repeat' (first | with_reducible intro _ | with_reducible apply And.intro))); all_goals (first | assumption | trivial | (unfold NBP; (try simp only [Ks52]); omega) | (unfold NBQ; (try simp only [Ks52]); omega) | omega | (exact fun hf_ => (I52_5 (by omega))) | (exact fun hf_ => (I52_14 (by omega)).cst) | (exact fun hf_ => I52_15 (by omega)) | (exact fun hf_ => I52_16 (by omega)) | (exact fun hf_ => absurd hf_ (by omega)) | (split <;> omega) | done)), ?_⟩
      intro s64 Ws64 e64_0 e64_1 e64_2 e64_3 e64_4 e64_5 e64_6 e64_7 e64_8 e64_9 e64_10 e64_11 e64_12 e64_13 e64_14 e64_15 e64_16 e64_17 e64_18 e64_19 e64_20 e64_21 e64_22 R64 q64
      have q64 := dig_blanks q64 (by (try simp only [Ks52]); omega)
      obtain ⟨q64_1, q64_2⟩ := q64
      (try simp only [Ks52, NBP, NBQ] at q64_1 q64_2 e64_0 e64_1 e64_2 e64_3 e64_4 e64_5 e64_6 e64_7 e64_8 e64_9 e64_10 e64_11 e64_12 e64_13 e64_14 e64_15 e64_16 e64_17 e64_18 e64_19 e64_20 e64_21 e64_22 R64)
      have Ks64 : rR s64 7 = rR σ 7 := by (try simp only [rR_sF, rR_sA, rR_sT, rR_sL] at e64_0 e64_1 e64_2 e64_3 e64_4 e64_5 e64_6 e64_7 e64_8 e64_9 e64_10 e64_11 e64_12 e64_13 e64_14 e64_15 e64_16 e64_17 e64_18 e64_19 e64_20 e64_21 e64_22 R64); omega
      have zr64 := fz_rng s64
      have A64 : Im (fz s64 = 0) (RG σ s64 (rR σ 7) 0) := fun hf => RG.trk hp_2 (I52_5 (by omega)) R64 (by omega)
      have F_64 : Im (fz s64 = 0) _ := fun hf => OQ.rg hp_2 R64 (I52_14 (by omega))
      have I0_64 : Im (fz s64 = 0) _ := fun hf => (RG.fA hp_2 R64).trans (I52_15 (by omega))
      have I5_64 : Im (fz s64 = 0) _ := fun hf => (RG.fA hp_2 R64).trans (I52_16 (by omega))
      have rNMp_64 := e64_0 I52_2; clear e64_0
      have TPRp_64 := e64_1 TPRp_52; clear e64_1
      have WNp_64 := e64_2 I52_3; clear e64_2
      have PNp_64 := e64_3 I52_4; clear e64_3
      have CCp_64 := e64_4 CCp_52; clear e64_4
      refine ⟨(by (try simp only [pre_X14_here, Ks64]); (all_goals (repeat' (first | with_reducible intro _ | with_reducible apply And.intro))); all_goals (first | assumption | trivial | (unfold NBP; (try simp only [Ks64]); omega) | (unfold NBQ; (try simp only [Ks64]); omega) | omega | (exact fun hf_ => (A64 (by omega))) | (exact fun hf_ => (F_64 (by omega)).cst) | (exact fun hf_ => I0_64 (by omega)) | (exact fun hf_ => I5_64 (by omega)) | (exact fun hf_ => absurd hf_ (by omega)) | (split <;> omega) | done)), ?_⟩
      intro v71 hv71 q71
      unfold rng at hv71
      unfold post_X14_here at q71
      obtain ⟨q71_1, q71_2⟩ := q71
      (try simp only [Ks64, NBP, NBQ] at q71_1 q71_2)
      refine ⟨fun c76 => ?_, fun c76 => ?_⟩
      · refine ⟨(by (try simp only [pre_X14_node_t, Ks64]); (all_goals (repeat' (first | with_reducible intro _ | with_reducible apply And.intro))); all_goals (first | assumption | trivial | (unfold NBP; (try simp only [Ks64]); omega) | (unfold NBQ; (try simp only [Ks64]); omega) | omega | (exact fun hf_ => (A64 (by omega))) | (exact fun hf_ => (F_64 (by omega)).cst) | (exact fun hf_ => I0_64 (by omega)) | (exact fun hf_ => I5_64 (by omega)) | (exact fun hf_ => absurd hf_ (by omega)) | (split <;> omega) | done)), ?_⟩
        intro v98 s98 hv98 Ws98 e98_0 e98_1 e98_2 e98_3 e98_4 e98_5 e98_6 e98_7 e98_8 e98_9 e98_10 e98_11 e98_12 e98_13 e98_14 e98_15 e98_16 e98_17 e98_18 e98_19 e98_20 e98_21 e98_22 q98
        unfold rng at hv98
        unfold post_X14_node_t at q98
        obtain ⟨q98_1, q98_2, q98_3, q98_4, q98_5, q98_6, q98_7, q98_8, q98_9⟩ := q98
        (try simp only [Ks64, NBP, NBQ] at q98_1 q98_2 q98_3 q98_4 q98_5 q98_6 q98_7 q98_8 q98_9 e98_0 e98_1 e98_2 e98_3 e98_4 e98_5 e98_6 e98_7 e98_8 e98_9 e98_10 e98_11 e98_12 e98_13 e98_14 e98_15 e98_16 e98_17 e98_18 e98_19 e98_20 e98_21 e98_22)
        have Ks98 : rR s98 7 = rR σ 7 := by (try simp only [rR_sF, rR_sA, rR_sT, rR_sL] at e98_0 e98_1 e98_2 e98_3 e98_4 e98_5 e98_6 e98_7 e98_8 e98_9 e98_10 e98_11 e98_12 e98_13 e98_14 e98_15 e98_16 e98_17 e98_18 e98_19 e98_20 e98_21 e98_22); omega
        have zr98 := fz_rng s98
        have A98 : Im (fz s98 = 0) (RG σ s98 (rR σ 7) 0) := fun hf => RG.trk hp_2 (A64 (by omega)) q98_3 (by omega)
        have F_98 : Im (fz s98 = 0) _ := fun hf => OQ.rg hp_2 q98_3 (F_64 (by omega))
        have I0_98 : Im (fz s98 = 0) _ := fun hf => (RG.fA hp_2 q98_3).trans (I0_64 (by omega))
        have I5_98 : Im (fz s98 = 0) _ := fun hf => (RG.fA hp_2 q98_3).trans (I5_64 (by omega))
        have rNMp_98 := e98_0 rNMp_64; clear e98_0
        have TPRp_98 := e98_1 TPRp_64; clear e98_1
        have WNp_98 := e98_2 WNp_64; clear e98_2
        have PNp_98 := e98_3 PNp_64; clear e98_3
        have CCp_98 := e98_4 CCp_64; clear e98_4
        have P_h89 : Im (fz s98 = 0) (TS s98 (rR σ 7) 7 v98 0 (rF σ 0 31) 0 (rF s52 (rR σ 7) 7) (rF s98 (rR σ 7) 7) 0 0 (rF s52 (rR σ 7) 32) (rF s98 (rR σ 7) 32)) := fun hf => (TS.lk0 hp_2 q98_4 q98_5 (d := (rF σ 0 31)) (lo := (rF s52 (rR σ 7) 7)) (hi := (rF s98 (rR σ 7) 7)) (u := (rF s52 (rR σ 7) 32))).cst
        have Pn_h90 : Im (fz s98 = 0) (tr s98 (rR σ 7) 5 v98 = 0) := fun hf => q98_9
        refine ⟨fun c104 => ?_, fun c104 => ?_⟩
        · refine ⟨(by (try simp only [Ks98]); (all_goals (repeat' (first | with_reducible intro _ | with_reducible apply And.intro))); all_goals (first | assumption | trivial | (unfold NBP; (try simp only [Ks98]); omega) | (unfold NBQ; (try simp only [Ks98]); omega) | omega | (exact fun hf_ => (A98 (by omega))) | (exact fun hf_ => (F_98 (by omega)).cst) | (exact fun hf_ => I0_98 (by omega)) | (exact fun hf_ => I5_98 (by omega)) | (exact fun hf_ => (P_h89 (by omega)).cst) | (exact fun hf_ => Pn_h90 (by omega)) | (exact fun hf_ => absurd hf_ (by omega)) | (split <;> omega) | done)), ?_⟩
          have I0_131 : Im (fz s98 = 0) _ := fun hf => (tr_ne (f := 5) (i := y52_2) (x := v98) hp_2 (by omega)).trans (I0_98 hf)
          have I5_131 : Im (fz s98 = 0) _ := fun hf => (tr_ne (f := 5) (i := y52_2) (x := v98) hp_2 (by omega)).trans (I5_98 hf)
          have F_h95 : Im (fz s98 = 0) (OQ (sT s98 (rR σ 7) 5 y52_2 v98) (rR σ 7) 7 1 y52_1 v98 (rF σ 0 31) 0 (y52_1 + 1) (rF σ (rR σ 7) 32) (rF s98 (rR σ 7) 7) (rF s98 (rR σ 7) 32)) := fun hf => (OQ.p1 hp_2 (F_98 (by omega)) (P_h89 (by omega)) (Pn_h90 (by omega))).cst
          refine ⟨(by (try simp only [pre_X14_blanks, reduceIte, and_true, true_and, and_false, false_and, and_self, Nat.reduceEqDiff, fz_sA, rF_sA, rA_sA, rR_sA, rF_sT, rR_sT, sT_sF, fz_sT, rA_sT26 hp_2, rA_sT27 hp_2, rA_sT34 hp_2, rA_sT35 hp_2, rA_sT36 hp_2, rA_sT37 hp_2, rA_sT40 hp_2, TPRp_sT hp_2, WNp_sT hp_2, VMp_sT hp_2, KYp_sT hp_2, PPp_sT hp_2, WFp_sT hp_2, CCp_sT hp_2, rNMp_sT5, PNp_sT5, rk_n0 hp_2, Ks98]); (all_goals (repeat' (first | with_reducible intro _ | with_reducible apply And.intro))); all_goals (first | assumption | trivial | (unfold NBP; (try simp only [reduceIte, and_true, true_and, and_false, false_and, and_self, Nat.reduceEqDiff, fz_sA, rF_sA, rA_sA, rR_sA, rF_sT, rR_sT, sT_sF, fz_sT, rA_sT26 hp_2, rA_sT27 hp_2, rA_sT34 hp_2, rA_sT35 hp_2, rA_sT36 hp_2, rA_sT37 hp_2, rA_sT40 hp_2, TPRp_sT hp_2, WNp_sT hp_2, VMp_sT hp_2, KYp_sT hp_2, PPp_sT hp_2, WFp_sT hp_2, CCp_sT hp_2, rNMp_sT5, PNp_sT5, rk_n0 hp_2, Ks98]); omega) | (unfold NBQ; (try simp only [reduceIte, and_true, true_and, and_false, false_and, and_self, Nat.reduceEqDiff, fz_sA, rF_sA, rA_sA, rR_sA, rF_sT, rR_sT, sT_sF, fz_sT, rA_sT26 hp_2, rA_sT27 hp_2, rA_sT34 hp_2, rA_sT35 hp_2, rA_sT36 hp_2, rA_sT37 hp_2, rA_sT40 hp_2, TPRp_sT hp_2, WNp_sT hp_2, VMp_sT hp_2, KYp_sT hp_2, PPp_sT hp_2, WFp_sT hp_2, CCp_sT hp_2, rNMp_sT5, PNp_sT5, rk_n0 hp_2, Ks98]); omega) | omega | (exact fun hf_ => (RG.tst hp_2 (A98 (by omega)) (by decide) (by omega))) | (exact fun hf_ => (F_h95 (by omega)).cst) | (exact fun hf_ => I0_131 (by omega)) | (exact fun hf_ => I5_131 (by omega)) | (exact fun hf_ => absurd hf_ (by omega)) | (split <;> omega) | done)), ?_⟩
          intro s136 Ws136 e136_0 e136_1 e136_2 e136_3 e136_4 e136_5 e136_6 e136_7 e136_8 e136_9 e136_10 e136_11 e136_12 e136_13 e136_14 e136_15 e136_16 e136_17 e136_18 e136_19 e136_20 e136_21 e136_22 R136 q136
          have q136 := dig_blanks q136 (by (try simp only [reduceIte, and_true, true_and, and_false, false_and, and_self, Nat.reduceEqDiff, fz_sA, rF_sA, rA_sA, rR_sA, rF_sT, rR_sT, sT_sF, fz_sT, rA_sT26 hp_2, rA_sT27 hp_2, rA_sT34 hp_2, rA_sT35 hp_2, rA_sT36 hp_2, rA_sT37 hp_2, rA_sT40 hp_2, TPRp_sT hp_2, WNp_sT hp_2, VMp_sT hp_2, KYp_sT hp_2, PPp_sT hp_2, WFp_sT hp_2, CCp_sT hp_2, rNMp_sT5, PNp_sT5, rk_n0 hp_2, Ks98]); omega)
          obtain ⟨q136_1, q136_2⟩ := q136
          (try simp only [reduceIte, and_true, true_and, and_false, false_and, and_self, Nat.reduceEqDiff, fz_sA, rF_sA, rA_sA, rR_sA, rF_sT, rR_sT, sT_sF, fz_sT, rA_sT26 hp_2, rA_sT27 hp_2, rA_sT34 hp_2, rA_sT35 hp_2, rA_sT36 hp_2, rA_sT37 hp_2, rA_sT40 hp_2, TPRp_sT hp_2, WNp_sT hp_2, VMp_sT hp_2, KYp_sT hp_2, PPp_sT hp_2, WFp_sT hp_2, CCp_sT hp_2, rNMp_sT5, PNp_sT5, rk_n0 hp_2, Ks98, NBP, NBQ] at q136_1 q136_2 e136_0 e136_1 e136_2 e136_3 e136_4 e136_5 e136_6 e136_7 e136_8 e136_9 e136_10 e136_11 e136_12 e136_13 e136_14 e136_15 e136_16 e136_17 e136_18 e136_19 e136_20 e136_21 e136_22 R136)
          have Ks136 : rR s136 7 = rR σ 7 := by (try simp only [rR_sF, rR_sA, rR_sT, rR_sL] at e136_0 e136_1 e136_2 e136_3 e136_4 e136_5 e136_6 e136_7 e136_8 e136_9 e136_10 e136_11 e136_12 e136_13 e136_14 e136_15 e136_16 e136_17 e136_18 e136_19 e136_20 e136_21 e136_22 R136); omega
          have zr136 := fz_rng s136
          have A136 : Im (fz s136 = 0) (RG σ s136 (rR σ 7) 0) := fun hf => RG.trk hp_2 (RG.tst hp_2 (A98 (by omega)) (by decide) (by omega)) R136 (by omega)
          have F_136 : Im (fz s136 = 0) _ := fun hf => OQ.rg hp_2 R136 (F_h95 (by omega))
          have I0_136 : Im (fz s136 = 0) _ := fun hf => (RG.fA hp_2 R136).trans (I0_131 (by omega))
          have I5_136 : Im (fz s136 = 0) _ := fun hf => (RG.fA hp_2 R136).trans (I5_131 (by omega))
          have rNMp_136 := e136_0 rNMp_98; clear e136_0
          have TPRp_136 := e136_1 TPRp_98; clear e136_1
          have WNp_136 := e136_2 WNp_98; clear e136_2
          have PNp_136 := e136_3 PNp_98; clear e136_3
          have CCp_136 := e136_4 CCp_98; clear e136_4
          refine ⟨(by (try simp only [pre_X14_here, Ks136]); (all_goals (repeat' (first | with_reducible intro _ | with_reducible apply And.intro))); all_goals (first | assumption | trivial | (unfold NBP; (try simp only [Ks136]); omega) | (unfold NBQ; (try simp only [Ks136]); omega) | omega | (exact fun hf_ => (A136 (by omega))) | (exact fun hf_ => (F_136 (by omega)).cst) | (exact fun hf_ => I0_136 (by omega)) | (exact fun hf_ => I5_136 (by omega)) | (exact fun hf_ => absurd hf_ (by omega)) | (split <;> omega) | done)), ?_⟩
          intro v140 hv140 q140
          unfold rng at hv140
          unfold post_X14_here at q140
          obtain ⟨q140_1, q140_2⟩ := q140
          (try simp only [Ks136, NBP, NBQ] at q140_1 q140_2)
          refine ⟨fun c145 => ?_, fun c145 => ?_⟩
          · exact (by (try simp only [inv_X14_readRow_52, mu_X14_readRow_52, mu_X14_readRow_52, Ks136]); (all_goals (repeat' (first | with_reducible intro _ | with_reducible apply And.intro))); all_goals (first | assumption | trivial | (unfold NBP; (try simp only [Ks136]); omega) | (unfold NBQ; (try simp only [Ks136]); omega) | omega | (exact fun hf_ => (A136 (by omega))) | (exact fun hf_ => (F_136 (by omega)).cst) | (exact fun hf_ => I0_136 (by omega)) | (exact fun hf_ => I5_136 (by omega)) | (exact fun hf_ => absurd hf_ (by omega)) | (split <;> omega) | done))
          · intro hr_; unfold rng at hr_
            refine ⟨(by (try simp only [rng, Ks136]); (all_goals (repeat' (first | with_reducible intro _ | with_reducible apply And.intro))); all_goals (first | assumption | trivial | (unfold NBP; (try simp only [Ks136]); omega) | (unfold NBQ; (try simp only [Ks136]); omega) | omega | (exact fun hf_ => (A136 (by omega))) | (exact fun hf_ => (F_136 (by omega)).cst) | (exact fun hf_ => I0_136 (by omega)) | (exact fun hf_ => I5_136 (by omega)) | (exact fun hf_ => absurd hf_ (by omega)) | (split <;> omega) | done)), ?_⟩
            exact (by (try simp only [inv_X14_readRow_52, mu_X14_readRow_52, mu_X14_readRow_52, reduceIte, and_true, true_and, and_false, false_and, and_self, Nat.reduceEqDiff, fz_sF29, rF_sF, rA_sF, rR_sF, tr_sF, TS_sF, LQ_sF, MI_sF, IG_sF, HQ_sF, OQ_sF, rNMp_sF, PNp_sF, RG_l29, RG_r29, TPRp_sF29, WNp_sF29, VMp_sF29, KYp_sF29, PPp_sF29, WFp_sF29, CCp_sF29, rk_n0 hp_2, Ks136]); (all_goals (repeat' (first | with_reducible intro _ | with_reducible apply And.intro))); all_goals (first | assumption | trivial | (unfold NBP; (try simp only [reduceIte, and_true, true_and, and_false, false_and, and_self, Nat.reduceEqDiff, fz_sF29, rF_sF, rA_sF, rR_sF, tr_sF, TS_sF, LQ_sF, MI_sF, IG_sF, HQ_sF, OQ_sF, rNMp_sF, PNp_sF, RG_l29, RG_r29, TPRp_sF29, WNp_sF29, VMp_sF29, KYp_sF29, PPp_sF29, WFp_sF29, CCp_sF29, rk_n0 hp_2, Ks136]); omega) | (unfold NBQ; (try simp only [reduceIte, and_true, true_and, and_false, false_and, and_self, Nat.reduceEqDiff, fz_sF29, rF_sF, rA_sF, rR_sF, tr_sF, TS_sF, LQ_sF, MI_sF, IG_sF, HQ_sF, OQ_sF, rNMp_sF, PNp_sF, RG_l29, RG_r29, TPRp_sF29, WNp_sF29, VMp_sF29, KYp_sF29, PPp_sF29, WFp_sF29, CCp_sF29, rk_n0 hp_2, Ks136]); omega) | omega | (exact fun hf_ => (A136 (by omega))) | (exact fun hf_ => (F_136 (by omega)).cst) | (exact fun hf_ => I0_136 (by omega)) | (exact fun hf_ => I5_136 (by omega)) | (exact fun hf_ => absurd hf_ (by omega)) | (split <;> omega) | done))
        · refine ⟨(by (try simp only [Ks98]); (all_goals (repeat' (first | with_reducible intro _ | with_reducible apply And.intro))); all_goals (first | assumption | trivial | (unfold NBP; (try simp only [Ks98]); omega) | (unfold NBQ; (try simp only [Ks98]); omega) | omega | (exact fun hf_ => (A98 (by omega))) | (exact fun hf_ => (F_98 (by omega)).cst) | (exact fun hf_ => I0_98 (by omega)) | (exact fun hf_ => I5_98 (by omega)) | (exact fun hf_ => (P_h89 (by omega)).cst) | (exact fun hf_ => Pn_h90 (by omega)) | (exact fun hf_ => absurd hf_ (by omega)) | (split <;> omega) | done)), ?_⟩
          have I0_117 : Im (fz s98 = 0) _ := fun hf => (tr_ne (f := 1) (i := y52_1) (x := v98) hp_2 (by omega)).trans (I0_98 hf)
          have I5_117 : Im (fz s98 = 0) _ := fun hf => (tr_ne (f := 1) (i := y52_1) (x := v98) hp_2 (by omega)).trans (I5_98 hf)
          have F_h126 : Im (fz s98 = 0) (OQ (sT s98 (rR σ 7) 1 y52_1 v98) (rR σ 7) 7 1 y52_1 v98 (rF σ 0 31) 0 (y52_1 + 1) (rF σ (rR σ 7) 32) (rF s98 (rR σ 7) 7) (rF s98 (rR σ 7) 32)) := fun hf => (OQ.p0 hp_2 (F_98 (by omega)) (P_h89 (by omega)) (Pn_h90 (by omega))).cst
          refine ⟨(by (try simp only [pre_X14_blanks, reduceIte, and_true, true_and, and_false, false_and, and_self, Nat.reduceEqDiff, fz_sA, rF_sA, rA_sA, rR_sA, rF_sT, rR_sT, sT_sF, fz_sT, rA_sT26 hp_2, rA_sT27 hp_2, rA_sT34 hp_2, rA_sT35 hp_2, rA_sT36 hp_2, rA_sT37 hp_2, rA_sT40 hp_2, TPRp_sT hp_2, WNp_sT hp_2, VMp_sT hp_2, KYp_sT hp_2, PPp_sT hp_2, WFp_sT hp_2, CCp_sT hp_2, rNMp_sT1, PNp_sT1, rk_n0 hp_2, Ks98]); (all_goals (repeat' (first | with_reducible intro _ | with_reducible apply And.intro))); all_goals (first | assumption | trivial | (unfold NBP; (try simp only [reduceIte, and_true, true_and, and_false, false_and, and_self, Nat.reduceEqDiff, fz_sA, rF_sA, rA_sA, rR_sA, rF_sT, rR_sT, sT_sF, fz_sT, rA_sT26 hp_2, rA_sT27 hp_2, rA_sT34 hp_2, rA_sT35 hp_2, rA_sT36 hp_2, rA_sT37 hp_2, rA_sT40 hp_2, TPRp_sT hp_2, WNp_sT hp_2, VMp_sT hp_2, KYp_sT hp_2, PPp_sT hp_2, WFp_sT hp_2, CCp_sT hp_2, rNMp_sT1, PNp_sT1, rk_n0 hp_2, Ks98]); omega) | (unfold NBQ; (try simp only [reduceIte, and_true, true_and, and_false, false_and, and_self, Nat.reduceEqDiff, fz_sA, rF_sA, rA_sA, rR_sA, rF_sT, rR_sT, sT_sF, fz_sT, rA_sT26 hp_2, rA_sT27 hp_2, rA_sT34 hp_2, rA_sT35 hp_2, rA_sT36 hp_2, rA_sT37 hp_2, rA_sT40 hp_2, TPRp_sT hp_2, WNp_sT hp_2, VMp_sT hp_2, KYp_sT hp_2, PPp_sT hp_2, WFp_sT hp_2, CCp_sT hp_2, rNMp_sT1, PNp_sT1, rk_n0 hp_2, Ks98]); omega) | omega | (exact fun hf_ => (RG.tst hp_2 (A98 (by omega)) (by decide) (by omega))) | (exact fun hf_ => (F_h126 (by omega)).cst) | (exact fun hf_ => I0_117 (by omega)) | (exact fun hf_ => I5_117 (by omega)) | (exact fun hf_ => absurd hf_ (by omega)) | (split <;> omega) | done)), ?_⟩
          intro s136 Ws136 e136_0 e136_1 e136_2 e136_3 e136_4 e136_5 e136_6 e136_7 e136_8 e136_9 e136_10 e136_11 e136_12 e136_13 e136_14 e136_15 e136_16 e136_17 e136_18 e136_19 e136_20 e136_21 e136_22 R136 q136
          have q136 := dig_blanks q136 (by (try simp only [reduceIte, and_true, true_and, and_false, false_and, and_self, Nat.reduceEqDiff, fz_sA, rF_sA, rA_sA, rR_sA, rF_sT, rR_sT, sT_sF, fz_sT, rA_sT26 hp_2, rA_sT27 hp_2, rA_sT34 hp_2, rA_sT35 hp_2, rA_sT36 hp_2, rA_sT37 hp_2, rA_sT40 hp_2, TPRp_sT hp_2, WNp_sT hp_2, VMp_sT hp_2, KYp_sT hp_2, PPp_sT hp_2, WFp_sT hp_2, CCp_sT hp_2, rNMp_sT1, PNp_sT1, rk_n0 hp_2, Ks98]); omega)
          obtain ⟨q136_1, q136_2⟩ := q136
          (try simp only [reduceIte, and_true, true_and, and_false, false_and, and_self, Nat.reduceEqDiff, fz_sA, rF_sA, rA_sA, rR_sA, rF_sT, rR_sT, sT_sF, fz_sT, rA_sT26 hp_2, rA_sT27 hp_2, rA_sT34 hp_2, rA_sT35 hp_2, rA_sT36 hp_2, rA_sT37 hp_2, rA_sT40 hp_2, TPRp_sT hp_2, WNp_sT hp_2, VMp_sT hp_2, KYp_sT hp_2, PPp_sT hp_2, WFp_sT hp_2, CCp_sT hp_2, rNMp_sT1, PNp_sT1, rk_n0 hp_2, Ks98, NBP, NBQ] at q136_1 q136_2 e136_0 e136_1 e136_2 e136_3 e136_4 e136_5 e136_6 e136_7 e136_8 e136_9 e136_10 e136_11 e136_12 e136_13 e136_14 e136_15 e136_16 e136_17 e136_18 e136_19 e136_20 e136_21 e136_22 R136)
          have Ks136 : rR s136 7 = rR σ 7 := by (try simp only [rR_sF, rR_sA, rR_sT, rR_sL] at e136_0 e136_1 e136_2 e136_3 e136_4 e136_5 e136_6 e136_7 e136_8 e136_9 e136_10 e136_11 e136_12 e136_13 e136_14 e136_15 e136_16 e136_17 e136_18 e136_19 e136_20 e136_21 e136_22 R136); omega
          have zr136 := fz_rng s136
          have A136 : Im (fz s136 = 0) (RG σ s136 (rR σ 7) 0) := fun hf => RG.trk hp_2 (RG.tst hp_2 (A98 (by omega)) (by decide) (by omega)) R136 (by omega)
          have F_136 : Im (fz s136 = 0) _ := fun hf => OQ.rg hp_2 R136 (F_h126 (by omega))
          have I0_136 : Im (fz s136 = 0) _ := fun hf => (RG.fA hp_2 R136).trans (I0_117 (by omega))
          have I5_136 : Im (fz s136 = 0) _ := fun hf => (RG.fA hp_2 R136).trans (I5_117 (by omega))
          have rNMp_136 := e136_0 rNMp_98; clear e136_0
          have TPRp_136 := e136_1 TPRp_98; clear e136_1
          have WNp_136 := e136_2 WNp_98; clear e136_2
          have PNp_136 := e136_3 PNp_98; clear e136_3
          have CCp_136 := e136_4 CCp_98; clear e136_4
          refine ⟨(by (try simp only [pre_X14_here, Ks136]); (all_goals (repeat' (first | with_reducible intro _ | with_reducible apply And.intro))); all_goals (first | assumption | trivial | (unfold NBP; (try simp only [Ks136]); omega) | (unfold NBQ; (try simp only [Ks136]); omega) | omega | (exact fun hf_ => (A136 (by omega))) | (exact fun hf_ => (F_136 (by omega)).cst) | (exact fun hf_ => I0_136 (by omega)) | (exact fun hf_ => I5_136 (by omega)) | (exact fun hf_ => absurd hf_ (by omega)) | (split <;> omega) | done)), ?_⟩
          intro v140 hv140 q140
          unfold rng at hv140
          unfold post_X14_here at q140
          obtain ⟨q140_1, q140_2⟩ := q140
          (try simp only [Ks136, NBP, NBQ] at q140_1 q140_2)
          refine ⟨fun c145 => ?_, fun c145 => ?_⟩
          · exact (by (try simp only [inv_X14_readRow_52, mu_X14_readRow_52, mu_X14_readRow_52, Ks136]); (all_goals (repeat' (first | with_reducible intro _ | with_reducible apply And.intro))); all_goals (first | assumption | trivial | (unfold NBP; (try simp only [Ks136]); omega) | (unfold NBQ; (try simp only [Ks136]); omega) | omega | (exact fun hf_ => (A136 (by omega))) | (exact fun hf_ => (F_136 (by omega)).cst) | (exact fun hf_ => I0_136 (by omega)) | (exact fun hf_ => I5_136 (by omega)) | (exact fun hf_ => absurd hf_ (by omega)) | (split <;> omega) | done))
          · intro hr_; unfold rng at hr_
            refine ⟨(by (try simp only [rng, Ks136]); (all_goals (repeat' (first | with_reducible intro _ | with_reducible apply And.intro))); all_goals (first | assumption | trivial | (unfold NBP; (try simp only [Ks136]); omega) | (unfold NBQ; (try simp only [Ks136]); omega) | omega | (exact fun hf_ => (A136 (by omega))) | (exact fun hf_ => (F_136 (by omega)).cst) | (exact fun hf_ => I0_136 (by omega)) | (exact fun hf_ => I5_136 (by omega)) | (exact fun hf_ => absurd hf_ (by omega)) | (split <;> omega) | done)), ?_⟩
            exact (by (try simp only [inv_X14_readRow_52, mu_X14_readRow_52, mu_X14_readRow_52, reduceIte, and_true, true_and, and_false, false_and, and_self, Nat.reduceEqDiff, fz_sF29, rF_sF, rA_sF, rR_sF, tr_sF, TS_sF, LQ_sF, MI_sF, IG_sF, HQ_sF, OQ_sF, rNMp_sF, PNp_sF, RG_l29, RG_r29, TPRp_sF29, WNp_sF29, VMp_sF29, KYp_sF29, PPp_sF29, WFp_sF29, CCp_sF29, rk_n0 hp_2, Ks136]); (all_goals (repeat' (first | with_reducible intro _ | with_reducible apply And.intro))); all_goals (first | assumption | trivial | (unfold NBP; (try simp only [reduceIte, and_true, true_and, and_false, false_and, and_self, Nat.reduceEqDiff, fz_sF29, rF_sF, rA_sF, rR_sF, tr_sF, TS_sF, LQ_sF, MI_sF, IG_sF, HQ_sF, OQ_sF, rNMp_sF, PNp_sF, RG_l29, RG_r29, TPRp_sF29, WNp_sF29, VMp_sF29, KYp_sF29, PPp_sF29, WFp_sF29, CCp_sF29, rk_n0 hp_2, Ks136]); omega) | (unfold NBQ; (try simp only [reduceIte, and_true, true_and, and_false, false_and, and_self, Nat.reduceEqDiff, fz_sF29, rF_sF, rA_sF, rR_sF, tr_sF, TS_sF, LQ_sF, MI_sF, IG_sF, HQ_sF, OQ_sF, rNMp_sF, PNp_sF, RG_l29, RG_r29, TPRp_sF29, WNp_sF29, VMp_sF29, KYp_sF29, PPp_sF29, WFp_sF29, CCp_sF29, rk_n0 hp_2, Ks136]); omega) | omega | (exact fun hf_ => (A136 (by omega))) | (exact fun hf_ => (F_136 (by omega)).cst) | (exact fun hf_ => I0_136 (by omega)) | (exact fun hf_ => I5_136 (by omega)) | (exact fun hf_ => absurd hf_ (by omega)) | (split <;> omega) | done))
      · refine ⟨(by (try simp only [pre_X14_here, Ks64]); (all_goals (repeat' (first | with_reducible intro _ | with_reducible apply And.intro))); all_goals (first | assumption | trivial | (unfold NBP; (try simp only [Ks64]); omega) | (unfold NBQ; (try simp only [Ks64]); omega) | omega | (exact fun hf_ => (A64 (by omega))) | (exact fun hf_ => (F_64 (by omega)).cst) | (exact fun hf_ => I0_64 (by omega)) | (exact fun hf_ => I5_64 (by omega)) | (exact fun hf_ => absurd hf_ (by omega)) | (split <;> omega) | done)), ?_⟩
        intro v80 hv80 q80
        unfold rng at hv80
        unfold post_X14_here at q80
        obtain ⟨q80_1, q80_2⟩ := q80
        (try simp only [Ks64, NBP, NBQ] at q80_1 q80_2)
        refine ⟨fun c85 => ?_, fun c85 => ?_⟩
        · refine ⟨(by (try simp only [pre_X14_readArg, Ks64]); (all_goals (repeat' (first | with_reducible intro _ | with_reducible apply And.intro))); all_goals (first | assumption | trivial | (unfold NBP; (try simp only [Ks64]); omega) | (unfold NBQ; (try simp only [Ks64]); omega) | omega | (exact fun hf_ => (A64 (by omega))) | (exact fun hf_ => (F_64 (by omega)).cst) | (exact fun hf_ => I0_64 (by omega)) | (exact fun hf_ => I5_64 (by omega)) | (exact fun hf_ => absurd hf_ (by omega)) | (split <;> omega) | done)), ?_⟩
          refine ⟨(by (try simp only [rk_X14_readArg, Ks64]); (all_goals (repeat' (first | with_reducible intro _ | with_reducible apply And.intro))); all_goals (first | assumption | trivial | (unfold NBP; (try simp only [Ks64]); omega) | (unfold NBQ; (try simp only [Ks64]); omega) | omega | (exact fun hf_ => (A64 (by omega))) | (exact fun hf_ => (F_64 (by omega)).cst) | (exact fun hf_ => I0_64 (by omega)) | (exact fun hf_ => I5_64 (by omega)) | (exact fun hf_ => absurd hf_ (by omega)) | (split <;> omega) | done)), ?_⟩
          intro v93 s93 hv93 Ws93 e93_0 e93_1 e93_2 e93_3 e93_4 e93_5 e93_6 e93_7 e93_8 e93_9 q93
          unfold rng at hv93
          unfold post_X14_readArg at q93
          obtain ⟨q93_1, q93_2, q93_3, q93_4, q93_5, q93_6, q93_7, q93_8, q93_9, q93_10⟩ := q93
          (try simp only [Ks64, NBP, NBQ] at q93_1 q93_2 q93_3 q93_4 q93_5 q93_6 q93_7 q93_8 q93_9 q93_10 e93_0 e93_1 e93_2 e93_3 e93_4 e93_5 e93_6 e93_7 e93_8 e93_9)
          have Ks93 : rR s93 7 = rR σ 7 := by (try simp only [rR_sF, rR_sA, rR_sT, rR_sL] at e93_0 e93_1 e93_2 e93_3 e93_4 e93_5 e93_6 e93_7 e93_8 e93_9); omega
          have zr93 := fz_rng s93
          have A93 : Im (fz s93 = 0) (RG σ s93 (rR σ 7) 0) := fun hf => RG.trk hp_2 (A64 (by omega)) (q93_5 hf) (by omega)
          have F_93 : Im (fz s93 = 0) _ := fun hf => OQ.rg hp_2 (q93_5 hf) (F_64 (by omega))
          have I0_93 : Im (fz s93 = 0) _ := fun hf => (RG.fA hp_2 (q93_5 hf)).trans (I0_64 (by omega))
          have I5_93 : Im (fz s93 = 0) _ := fun hf => (RG.fA hp_2 (q93_5 hf)).trans (I5_64 (by omega))
          have TPRp_93 := e93_0 TPRp_64; clear e93_0
          have CCp_93 := e93_1 CCp_64; clear e93_1
          have Q_h176 : Im (fz s93 = 0) (TS s93 (rR σ 7) 1 v93 0 ((rF σ 0 31) + 1) 1 (rF s52 (rR σ 7) 7) (rF s93 (rR σ 7) 7) 0 0 (rF s52 (rR σ 7) 32) (rF s93 (rR σ 7) 32)) := fun hf => (q93_8 hf).cst
          refine ⟨(by (try simp only [pre_X14_node_t, Ks93]); (all_goals (repeat' (first | with_reducible intro _ | with_reducible apply And.intro))); all_goals (first | assumption | trivial | (unfold NBP; (try simp only [Ks93]); omega) | (unfold NBQ; (try simp only [Ks93]); omega) | omega | (exact fun hf_ => (A93 (by omega))) | (exact fun hf_ => (F_93 (by omega)).cst) | (exact fun hf_ => I0_93 (by omega)) | (exact fun hf_ => I5_93 (by omega)) | (exact fun hf_ => (Q_h176 (by omega)).cst) | (exact fun hf_ => absurd hf_ (by omega)) | (split <;> omega) | done)), ?_⟩
          intro v98 s98 hv98 Ws98 e98_0 e98_1 e98_2 e98_3 e98_4 e98_5 e98_6 e98_7 e98_8 e98_9 e98_10 e98_11 e98_12 e98_13 e98_14 e98_15 e98_16 e98_17 e98_18 e98_19 e98_20 e98_21 e98_22 q98
          unfold rng at hv98
          unfold post_X14_node_t at q98
          obtain ⟨q98_1, q98_2, q98_3, q98_4, q98_5, q98_6, q98_7, q98_8, q98_9⟩ := q98
          (try simp only [Ks93, NBP, NBQ] at q98_1 q98_2 q98_3 q98_4 q98_5 q98_6 q98_7 q98_8 q98_9 e98_0 e98_1 e98_2 e98_3 e98_4 e98_5 e98_6 e98_7 e98_8 e98_9 e98_10 e98_11 e98_12 e98_13 e98_14 e98_15 e98_16 e98_17 e98_18 e98_19 e98_20 e98_21 e98_22)
          have Ks98 : rR s98 7 = rR σ 7 := by (try simp only [rR_sF, rR_sA, rR_sT, rR_sL] at e98_0 e98_1 e98_2 e98_3 e98_4 e98_5 e98_6 e98_7 e98_8 e98_9 e98_10 e98_11 e98_12 e98_13 e98_14 e98_15 e98_16 e98_17 e98_18 e98_19 e98_20 e98_21 e98_22); omega
          have zr98 := fz_rng s98
          have A98 : Im (fz s98 = 0) (RG σ s98 (rR σ 7) 0) := fun hf => RG.trk hp_2 (A93 (by omega)) q98_3 (by omega)
          have F_98 : Im (fz s98 = 0) _ := fun hf => OQ.rg hp_2 q98_3 (F_93 (by omega))
          have I0_98 : Im (fz s98 = 0) _ := fun hf => (RG.fA hp_2 q98_3).trans (I0_93 (by omega))
          have I5_98 : Im (fz s98 = 0) _ := fun hf => (RG.fA hp_2 q98_3).trans (I5_93 (by omega))
          have Q_98 : Im (fz s98 = 0) _ := fun hf => RG.tsA hp_2 q98_3 (Q_h176 (by omega))
          have rNMp_98 := e98_0 q93_2; clear e98_0
          have TPRp_98 := e98_1 TPRp_93; clear e98_1
          have WNp_98 := e98_2 q93_3; clear e98_2
          have PNp_98 := e98_3 q93_4; clear e98_3
          have CCp_98 := e98_4 CCp_93; clear e98_4
          have P_h195 : Im (fz s98 = 0) (TS s98 (rR σ 7) 7 v98 0 (rF σ 0 31) 0 (rF s52 (rR σ 7) 7) (rF s98 (rR σ 7) 7) 0 0 (rF s52 (rR σ 7) 32) (rF s98 (rR σ 7) 32)) := fun hf => (TS.lk hp_2 q98_4 q98_5 (Q_98 hf) (d := (rF σ 0 31)) (lo := (rF s52 (rR σ 7) 7)) (hi := (rF s98 (rR σ 7) 7))).cst
          have Pn_h196 : Im (fz s98 = 0) (tr s98 (rR σ 7) 5 v98 = 0) := fun hf => q98_9
          refine ⟨fun c104 => ?_, fun c104 => ?_⟩
          · refine ⟨(by (try simp only [Ks98]); (all_goals (repeat' (first | with_reducible intro _ | with_reducible apply And.intro))); all_goals (first | assumption | trivial | (unfold NBP; (try simp only [Ks98]); omega) | (unfold NBQ; (try simp only [Ks98]); omega) | omega | (exact fun hf_ => (A98 (by omega))) | (exact fun hf_ => (F_98 (by omega)).cst) | (exact fun hf_ => I0_98 (by omega)) | (exact fun hf_ => I5_98 (by omega)) | (exact fun hf_ => (Q_98 (by omega)).cst) | (exact fun hf_ => (P_h195 (by omega)).cst) | (exact fun hf_ => Pn_h196 (by omega)) | (exact fun hf_ => absurd hf_ (by omega)) | (split <;> omega) | done)), ?_⟩
            have I0_131 : Im (fz s98 = 0) _ := fun hf => (tr_ne (f := 5) (i := y52_2) (x := v98) hp_2 (by omega)).trans (I0_98 hf)
            have I5_131 : Im (fz s98 = 0) _ := fun hf => (tr_ne (f := 5) (i := y52_2) (x := v98) hp_2 (by omega)).trans (I5_98 hf)
            have Q_131 : Im (fz s98 = 0) _ := fun hf => TS.tstA (f := 5) (i := y52_2) (z := v98) hp_2 (Q_98 hf)
            have F_h202 : Im (fz s98 = 0) (OQ (sT s98 (rR σ 7) 5 y52_2 v98) (rR σ 7) 7 1 y52_1 v98 (rF σ 0 31) 0 (y52_1 + 1) (rF σ (rR σ 7) 32) (rF s98 (rR σ 7) 7) (rF s98 (rR σ 7) 32)) := fun hf => (OQ.p1 hp_2 (F_98 (by omega)) (P_h195 (by omega)) (Pn_h196 (by omega))).cst
            refine ⟨(by (try simp only [pre_X14_blanks, reduceIte, and_true, true_and, and_false, false_and, and_self, Nat.reduceEqDiff, fz_sA, rF_sA, rA_sA, rR_sA, rF_sT, rR_sT, sT_sF, fz_sT, rA_sT26 hp_2, rA_sT27 hp_2, rA_sT34 hp_2, rA_sT35 hp_2, rA_sT36 hp_2, rA_sT37 hp_2, rA_sT40 hp_2, TPRp_sT hp_2, WNp_sT hp_2, VMp_sT hp_2, KYp_sT hp_2, PPp_sT hp_2, WFp_sT hp_2, CCp_sT hp_2, rNMp_sT5, PNp_sT5, rk_n0 hp_2, Ks98]); (all_goals (repeat' (first | with_reducible intro _ | with_reducible apply And.intro))); all_goals (first | assumption | trivial | (unfold NBP; (try simp only [reduceIte, and_true, true_and, and_false, false_and, and_self, Nat.reduceEqDiff, fz_sA, rF_sA, rA_sA, rR_sA, rF_sT, rR_sT, sT_sF, fz_sT, rA_sT26 hp_2, rA_sT27 hp_2, rA_sT34 hp_2, rA_sT35 hp_2, rA_sT36 hp_2, rA_sT37 hp_2, rA_sT40 hp_2, TPRp_sT hp_2, WNp_sT hp_2, VMp_sT hp_2, KYp_sT hp_2, PPp_sT hp_2, WFp_sT hp_2, CCp_sT hp_2, rNMp_sT5, PNp_sT5, rk_n0 hp_2, Ks98]); omega) | (unfold NBQ; (try simp only [reduceIte, and_true, true_and, and_false, false_and, and_self, Nat.reduceEqDiff, fz_sA, rF_sA, rA_sA, rR_sA, rF_sT, rR_sT, sT_sF, fz_sT, rA_sT26 hp_2, rA_sT27 hp_2, rA_sT34 hp_2, rA_sT35 hp_2, rA_sT36 hp_2, rA_sT37 hp_2, rA_sT40 hp_2, TPRp_sT hp_2, WNp_sT hp_2, VMp_sT hp_2, KYp_sT hp_2, PPp_sT hp_2, WFp_sT hp_2, CCp_sT hp_2, rNMp_sT5, PNp_sT5, rk_n0 hp_2, Ks98]); omega) | omega | (exact fun hf_ => (RG.tst hp_2 (A98 (by omega)) (by decide) (by omega))) | (exact fun hf_ => (F_h202 (by omega)).cst) | (exact fun hf_ => I0_131 (by omega)) | (exact fun hf_ => I5_131 (by omega)) | (exact fun hf_ => (Q_131 (by omega)).cst) | (exact fun hf_ => absurd hf_ (by omega)) | (split <;> omega) | done)), ?_⟩
            intro s136 Ws136 e136_0 e136_1 e136_2 e136_3 e136_4 e136_5 e136_6 e136_7 e136_8 e136_9 e136_10 e136_11 e136_12 e136_13 e136_14 e136_15 e136_16 e136_17 e136_18 e136_19 e136_20 e136_21 e136_22 R136 q136
            have q136 := dig_blanks q136 (by (try simp only [reduceIte, and_true, true_and, and_false, false_and, and_self, Nat.reduceEqDiff, fz_sA, rF_sA, rA_sA, rR_sA, rF_sT, rR_sT, sT_sF, fz_sT, rA_sT26 hp_2, rA_sT27 hp_2, rA_sT34 hp_2, rA_sT35 hp_2, rA_sT36 hp_2, rA_sT37 hp_2, rA_sT40 hp_2, TPRp_sT hp_2, WNp_sT hp_2, VMp_sT hp_2, KYp_sT hp_2, PPp_sT hp_2, WFp_sT hp_2, CCp_sT hp_2, rNMp_sT5, PNp_sT5, rk_n0 hp_2, Ks98]); omega)
            obtain ⟨q136_1, q136_2⟩ := q136
            (try simp only [reduceIte, and_true, true_and, and_false, false_and, and_self, Nat.reduceEqDiff, fz_sA, rF_sA, rA_sA, rR_sA, rF_sT, rR_sT, sT_sF, fz_sT, rA_sT26 hp_2, rA_sT27 hp_2, rA_sT34 hp_2, rA_sT35 hp_2, rA_sT36 hp_2, rA_sT37 hp_2, rA_sT40 hp_2, TPRp_sT hp_2, WNp_sT hp_2, VMp_sT hp_2, KYp_sT hp_2, PPp_sT hp_2, WFp_sT hp_2, CCp_sT hp_2, rNMp_sT5, PNp_sT5, rk_n0 hp_2, Ks98, NBP, NBQ] at q136_1 q136_2 e136_0 e136_1 e136_2 e136_3 e136_4 e136_5 e136_6 e136_7 e136_8 e136_9 e136_10 e136_11 e136_12 e136_13 e136_14 e136_15 e136_16 e136_17 e136_18 e136_19 e136_20 e136_21 e136_22 R136)
            have Ks136 : rR s136 7 = rR σ 7 := by (try simp only [rR_sF, rR_sA, rR_sT, rR_sL] at e136_0 e136_1 e136_2 e136_3 e136_4 e136_5 e136_6 e136_7 e136_8 e136_9 e136_10 e136_11 e136_12 e136_13 e136_14 e136_15 e136_16 e136_17 e136_18 e136_19 e136_20 e136_21 e136_22 R136); omega
            have zr136 := fz_rng s136
            have A136 : Im (fz s136 = 0) (RG σ s136 (rR σ 7) 0) := fun hf => RG.trk hp_2 (RG.tst hp_2 (A98 (by omega)) (by decide) (by omega)) R136 (by omega)
            have F_136 : Im (fz s136 = 0) _ := fun hf => OQ.rg hp_2 R136 (F_h202 (by omega))
            have I0_136 : Im (fz s136 = 0) _ := fun hf => (RG.fA hp_2 R136).trans (I0_131 (by omega))
            have I5_136 : Im (fz s136 = 0) _ := fun hf => (RG.fA hp_2 R136).trans (I5_131 (by omega))
            have Q_136 : Im (fz s136 = 0) _ := fun hf => RG.tsA hp_2 R136 (Q_131 (by omega))
            have rNMp_136 := e136_0 rNMp_98; clear e136_0
            have TPRp_136 := e136_1 TPRp_98; clear e136_1
            have WNp_136 := e136_2 WNp_98; clear e136_2
            have PNp_136 := e136_3 PNp_98; clear e136_3
            have CCp_136 := e136_4 CCp_98; clear e136_4
            refine ⟨(by (try simp only [pre_X14_here, Ks136]); (all_goals (repeat' (first | with_reducible intro _ | with_reducible apply And.intro))); all_goals (first | assumption | trivial | (unfold NBP; (try simp only [Ks136]); omega) | (unfold NBQ; (try simp only [Ks136]); omega) | omega | (exact fun hf_ => (A136 (by omega))) | (exact fun hf_ => (F_136 (by omega)).cst) | (exact fun hf_ => I0_136 (by omega)) | (exact fun hf_ => I5_136 (by omega)) | (exact fun hf_ => (Q_136 (by omega)).cst) | (exact fun hf_ => absurd hf_ (by omega)) | (split <;> omega) | done)), ?_⟩
            intro v140 hv140 q140
            unfold rng at hv140
            unfold post_X14_here at q140
            obtain ⟨q140_1, q140_2⟩ := q140
            (try simp only [Ks136, NBP, NBQ] at q140_1 q140_2)
            refine ⟨fun c145 => ?_, fun c145 => ?_⟩
            · exact (by (try simp only [inv_X14_readRow_52, mu_X14_readRow_52, mu_X14_readRow_52, Ks136]); (all_goals (repeat' (first | with_reducible intro _ | with_reducible apply And.intro))); all_goals (first | assumption | trivial | (unfold NBP; (try simp only [Ks136]); omega) | (unfold NBQ; (try simp only [Ks136]); omega) | omega | (exact fun hf_ => (A136 (by omega))) | (exact fun hf_ => (F_136 (by omega)).cst) | (exact fun hf_ => I0_136 (by omega)) | (exact fun hf_ => I5_136 (by omega)) | (exact fun hf_ => (Q_136 (by omega)).cst) | (exact fun hf_ => absurd hf_ (by omega)) | (split <;> omega) | done))
            · intro hr_; unfold rng at hr_
              refine ⟨(by (try simp only [rng, Ks136]); (all_goals (repeat' (first | with_reducible intro _ | with_reducible apply And.intro))); all_goals (first | assumption | trivial | (unfold NBP; (try simp only [Ks136]); omega) | (unfold NBQ; (try simp only [Ks136]); omega) | omega | (exact fun hf_ => (A136 (by omega))) | (exact fun hf_ => (F_136 (by omega)).cst) | (exact fun hf_ => I0_136 (by omega)) | (exact fun hf_ => I5_136 (by omega)) | (exact fun hf_ => (Q_136 (by omega)).cst) | (exact fun hf_ => absurd hf_ (by omega)) | (split <;> omega) | done)), ?_⟩
              exact (by (try simp only [inv_X14_readRow_52, mu_X14_readRow_52, mu_X14_readRow_52, reduceIte, and_true, true_and, and_false, false_and, and_self, Nat.reduceEqDiff, fz_sF29, rF_sF, rA_sF, rR_sF, tr_sF, TS_sF, LQ_sF, MI_sF, IG_sF, HQ_sF, OQ_sF, rNMp_sF, PNp_sF, RG_l29, RG_r29, TPRp_sF29, WNp_sF29, VMp_sF29, KYp_sF29, PPp_sF29, WFp_sF29, CCp_sF29, rk_n0 hp_2, Ks136]); (all_goals (repeat' (first | with_reducible intro _ | with_reducible apply And.intro))); all_goals (first | assumption | trivial | (unfold NBP; (try simp only [reduceIte, and_true, true_and, and_false, false_and, and_self, Nat.reduceEqDiff, fz_sF29, rF_sF, rA_sF, rR_sF, tr_sF, TS_sF, LQ_sF, MI_sF, IG_sF, HQ_sF, OQ_sF, rNMp_sF, PNp_sF, RG_l29, RG_r29, TPRp_sF29, WNp_sF29, VMp_sF29, KYp_sF29, PPp_sF29, WFp_sF29, CCp_sF29, rk_n0 hp_2, Ks136]); omega) | (unfold NBQ; (try simp only [reduceIte, and_true, true_and, and_false, false_and, and_self, Nat.reduceEqDiff, fz_sF29, rF_sF, rA_sF, rR_sF, tr_sF, TS_sF, LQ_sF, MI_sF, IG_sF, HQ_sF, OQ_sF, rNMp_sF, PNp_sF, RG_l29, RG_r29, TPRp_sF29, WNp_sF29, VMp_sF29, KYp_sF29, PPp_sF29, WFp_sF29, CCp_sF29, rk_n0 hp_2, Ks136]); omega) | omega | (exact fun hf_ => (A136 (by omega))) | (exact fun hf_ => (F_136 (by omega)).cst) | (exact fun hf_ => I0_136 (by omega)) | (exact fun hf_ => I5_136 (by omega)) | (exact fun hf_ => (Q_136 (by omega)).cst) | (exact fun hf_ => absurd hf_ (by omega)) | (split <;> omega) | done))
          · refine ⟨(by (try simp only [Ks98]); (all_goals (repeat' (first | with_reducible intro _ | with_reducible apply And.intro))); all_goals (first | assumption | trivial | (unfold NBP; (try simp only [Ks98]); omega) | (unfold NBQ; (try simp only [Ks98]); omega) | omega | (exact fun hf_ => (A98 (by omega))) | (exact fun hf_ => (F_98 (by omega)).cst) | (exact fun hf_ => I0_98 (by omega)) | (exact fun hf_ => I5_98 (by omega)) | (exact fun hf_ => (Q_98 (by omega)).cst) | (exact fun hf_ => (P_h195 (by omega)).cst) | (exact fun hf_ => Pn_h196 (by omega)) | (exact fun hf_ => absurd hf_ (by omega)) | (split <;> omega) | done)), ?_⟩
            have I0_117 : Im (fz s98 = 0) _ := fun hf => (tr_ne (f := 1) (i := y52_1) (x := v98) hp_2 (by omega)).trans (I0_98 hf)
            have I5_117 : Im (fz s98 = 0) _ := fun hf => (tr_ne (f := 1) (i := y52_1) (x := v98) hp_2 (by omega)).trans (I5_98 hf)
            have Q_117 : Im (fz s98 = 0) _ := fun hf => TS.tstA (f := 1) (i := y52_1) (z := v98) hp_2 (Q_98 hf)
            have F_h235 : Im (fz s98 = 0) (OQ (sT s98 (rR σ 7) 1 y52_1 v98) (rR σ 7) 7 1 y52_1 v98 (rF σ 0 31) 0 (y52_1 + 1) (rF σ (rR σ 7) 32) (rF s98 (rR σ 7) 7) (rF s98 (rR σ 7) 32)) := fun hf => (OQ.p0 hp_2 (F_98 (by omega)) (P_h195 (by omega)) (Pn_h196 (by omega))).cst
            refine ⟨(by (try simp only [pre_X14_blanks, reduceIte, and_true, true_and, and_false, false_and, and_self, Nat.reduceEqDiff, fz_sA, rF_sA, rA_sA, rR_sA, rF_sT, rR_sT, sT_sF, fz_sT, rA_sT26 hp_2, rA_sT27 hp_2, rA_sT34 hp_2, rA_sT35 hp_2, rA_sT36 hp_2, rA_sT37 hp_2, rA_sT40 hp_2, TPRp_sT hp_2, WNp_sT hp_2, VMp_sT hp_2, KYp_sT hp_2, PPp_sT hp_2, WFp_sT hp_2, CCp_sT hp_2, rNMp_sT1, PNp_sT1, rk_n0 hp_2, Ks98]); (all_goals (repeat' (first | with_reducible intro _ | with_reducible apply And.intro))); all_goals (first | assumption | trivial | (unfold NBP; (try simp only [reduceIte, and_true, true_and, and_false, false_and, and_self, Nat.reduceEqDiff, fz_sA, rF_sA, rA_sA, rR_sA, rF_sT, rR_sT, sT_sF, fz_sT, rA_sT26 hp_2, rA_sT27 hp_2, rA_sT34 hp_2, rA_sT35 hp_2, rA_sT36 hp_2, rA_sT37 hp_2, rA_sT40 hp_2, TPRp_sT hp_2, WNp_sT hp_2, VMp_sT hp_2, KYp_sT hp_2, PPp_sT hp_2, WFp_sT hp_2, CCp_sT hp_2, rNMp_sT1, PNp_sT1, rk_n0 hp_2, Ks98]); omega) | (unfold NBQ; (try simp only [reduceIte, and_true, true_and, and_false, false_and, and_self, Nat.reduceEqDiff, fz_sA, rF_sA, rA_sA, rR_sA, rF_sT, rR_sT, sT_sF, fz_sT, rA_sT26 hp_2, rA_sT27 hp_2, rA_sT34 hp_2, rA_sT35 hp_2, rA_sT36 hp_2, rA_sT37 hp_2, rA_sT40 hp_2, TPRp_sT hp_2, WNp_sT hp_2, VMp_sT hp_2, KYp_sT hp_2, PPp_sT hp_2, WFp_sT hp_2, CCp_sT hp_2, rNMp_sT1, PNp_sT1, rk_n0 hp_2, Ks98]); omega) | omega | (exact fun hf_ => (RG.tst hp_2 (A98 (by omega)) (by decide) (by omega))) | (exact fun hf_ => (F_h235 (by omega)).cst) | (exact fun hf_ => I0_117 (by omega)) | (exact fun hf_ => I5_117 (by omega)) | (exact fun hf_ => (Q_117 (by omega)).cst) | (exact fun hf_ => absurd hf_ (by omega)) | (split <;> omega) | done)), ?_⟩
            intro s136 Ws136 e136_0 e136_1 e136_2 e136_3 e136_4 e136_5 e136_6 e136_7 e136_8 e136_9 e136_10 e136_11 e136_12 e136_13 e136_14 e136_15 e136_16 e136_17 e136_18 e136_19 e136_20 e136_21 e136_22 R136 q136
            have q136 := dig_blanks q136 (by (try simp only [reduceIte, and_true, true_and, and_false, false_and, and_self, Nat.reduceEqDiff, fz_sA, rF_sA, rA_sA, rR_sA, rF_sT, rR_sT, sT_sF, fz_sT, rA_sT26 hp_2, rA_sT27 hp_2, rA_sT34 hp_2, rA_sT35 hp_2, rA_sT36 hp_2, rA_sT37 hp_2, rA_sT40 hp_2, TPRp_sT hp_2, WNp_sT hp_2, VMp_sT hp_2, KYp_sT hp_2, PPp_sT hp_2, WFp_sT hp_2, CCp_sT hp_2, rNMp_sT1, PNp_sT1, rk_n0 hp_2, Ks98]); omega)
            obtain ⟨q136_1, q136_2⟩ := q136
            (try simp only [reduceIte, and_true, true_and, and_false, false_and, and_self, Nat.reduceEqDiff, fz_sA, rF_sA, rA_sA, rR_sA, rF_sT, rR_sT, sT_sF, fz_sT, rA_sT26 hp_2, rA_sT27 hp_2, rA_sT34 hp_2, rA_sT35 hp_2, rA_sT36 hp_2, rA_sT37 hp_2, rA_sT40 hp_2, TPRp_sT hp_2, WNp_sT hp_2, VMp_sT hp_2, KYp_sT hp_2, PPp_sT hp_2, WFp_sT hp_2, CCp_sT hp_2, rNMp_sT1, PNp_sT1, rk_n0 hp_2, Ks98, NBP, NBQ] at q136_1 q136_2 e136_0 e136_1 e136_2 e136_3 e136_4 e136_5 e136_6 e136_7 e136_8 e136_9 e136_10 e136_11 e136_12 e136_13 e136_14 e136_15 e136_16 e136_17 e136_18 e136_19 e136_20 e136_21 e136_22 R136)
            have Ks136 : rR s136 7 = rR σ 7 := by (try simp only [rR_sF, rR_sA, rR_sT, rR_sL] at e136_0 e136_1 e136_2 e136_3 e136_4 e136_5 e136_6 e136_7 e136_8 e136_9 e136_10 e136_11 e136_12 e136_13 e136_14 e136_15 e136_16 e136_17 e136_18 e136_19 e136_20 e136_21 e136_22 R136); omega
            have zr136 := fz_rng s136
            have A136 : Im (fz s136 = 0) (RG σ s136 (rR σ 7) 0) := fun hf => RG.trk hp_2 (RG.tst hp_2 (A98 (by omega)) (by decide) (by omega)) R136 (by omega)
            have F_136 : Im (fz s136 = 0) _ := fun hf => OQ.rg hp_2 R136 (F_h235 (by omega))
            have I0_136 : Im (fz s136 = 0) _ := fun hf => (RG.fA hp_2 R136).trans (I0_117 (by omega))
            have I5_136 : Im (fz s136 = 0) _ := fun hf => (RG.fA hp_2 R136).trans (I5_117 (by omega))
            have Q_136 : Im (fz s136 = 0) _ := fun hf => RG.tsA hp_2 R136 (Q_117 (by omega))
            have rNMp_136 := e136_0 rNMp_98; clear e136_0
            have TPRp_136 := e136_1 TPRp_98; clear e136_1
            have WNp_136 := e136_2 WNp_98; clear e136_2
            have PNp_136 := e136_3 PNp_98; clear e136_3
            have CCp_136 := e136_4 CCp_98; clear e136_4
            refine ⟨(by (try simp only [pre_X14_here, Ks136]); (all_goals (repeat' (first | with_reducible intro _ | with_reducible apply And.intro))); all_goals (first | assumption | trivial | (unfold NBP; (try simp only [Ks136]); omega) | (unfold NBQ; (try simp only [Ks136]); omega) | omega | (exact fun hf_ => (A136 (by omega))) | (exact fun hf_ => (F_136 (by omega)).cst) | (exact fun hf_ => I0_136 (by omega)) | (exact fun hf_ => I5_136 (by omega)) | (exact fun hf_ => (Q_136 (by omega)).cst) | (exact fun hf_ => absurd hf_ (by omega)) | (split <;> omega) | done)), ?_⟩
            intro v140 hv140 q140
            unfold rng at hv140
            unfold post_X14_here at q140
            obtain ⟨q140_1, q140_2⟩ := q140
            (try simp only [Ks136, NBP, NBQ] at q140_1 q140_2)
            refine ⟨fun c145 => ?_, fun c145 => ?_⟩
            · exact (by (try simp only [inv_X14_readRow_52, mu_X14_readRow_52, mu_X14_readRow_52, Ks136]); (all_goals (repeat' (first | with_reducible intro _ | with_reducible apply And.intro))); all_goals (first | assumption | trivial | (unfold NBP; (try simp only [Ks136]); omega) | (unfold NBQ; (try simp only [Ks136]); omega) | omega | (exact fun hf_ => (A136 (by omega))) | (exact fun hf_ => (F_136 (by omega)).cst) | (exact fun hf_ => I0_136 (by omega)) | (exact fun hf_ => I5_136 (by omega)) | (exact fun hf_ => (Q_136 (by omega)).cst) | (exact fun hf_ => absurd hf_ (by omega)) | (split <;> omega) | done))
            · intro hr_; unfold rng at hr_
              refine ⟨(by (try simp only [rng, Ks136]); (all_goals (repeat' (first | with_reducible intro _ | with_reducible apply And.intro))); all_goals (first | assumption | trivial | (unfold NBP; (try simp only [Ks136]); omega) | (unfold NBQ; (try simp only [Ks136]); omega) | omega | (exact fun hf_ => (A136 (by omega))) | (exact fun hf_ => (F_136 (by omega)).cst) | (exact fun hf_ => I0_136 (by omega)) | (exact fun hf_ => I5_136 (by omega)) | (exact fun hf_ => (Q_136 (by omega)).cst) | (exact fun hf_ => absurd hf_ (by omega)) | (split <;> omega) | done)), ?_⟩
              exact (by (try simp only [inv_X14_readRow_52, mu_X14_readRow_52, mu_X14_readRow_52, reduceIte, and_true, true_and, and_false, false_and, and_self, Nat.reduceEqDiff, fz_sF29, rF_sF, rA_sF, rR_sF, tr_sF, TS_sF, LQ_sF, MI_sF, IG_sF, HQ_sF, OQ_sF, rNMp_sF, PNp_sF, RG_l29, RG_r29, TPRp_sF29, WNp_sF29, VMp_sF29, KYp_sF29, PPp_sF29, WFp_sF29, CCp_sF29, rk_n0 hp_2, Ks136]); (all_goals (repeat' (first | with_reducible intro _ | with_reducible apply And.intro))); all_goals (first | assumption | trivial | (unfold NBP; (try simp only [reduceIte, and_true, true_and, and_false, false_and, and_self, Nat.reduceEqDiff, fz_sF29, rF_sF, rA_sF, rR_sF, tr_sF, TS_sF, LQ_sF, MI_sF, IG_sF, HQ_sF, OQ_sF, rNMp_sF, PNp_sF, RG_l29, RG_r29, TPRp_sF29, WNp_sF29, VMp_sF29, KYp_sF29, PPp_sF29, WFp_sF29, CCp_sF29, rk_n0 hp_2, Ks136]); omega) | (unfold NBQ; (try simp only [reduceIte, and_true, true_and, and_false, false_and, and_self, Nat.reduceEqDiff, fz_sF29, rF_sF, rA_sF, rR_sF, tr_sF, TS_sF, LQ_sF, MI_sF, IG_sF, HQ_sF, OQ_sF, rNMp_sF, PNp_sF, RG_l29, RG_r29, TPRp_sF29, WNp_sF29, VMp_sF29, KYp_sF29, PPp_sF29, WFp_sF29, CCp_sF29, rk_n0 hp_2, Ks136]); omega) | omega | (exact fun hf_ => (A136 (by omega))) | (exact fun hf_ => (F_136 (by omega)).cst) | (exact fun hf_ => I0_136 (by omega)) | (exact fun hf_ => I5_136 (by omega)) | (exact fun hf_ => (Q_136 (by omega)).cst) | (exact fun hf_ => absurd hf_ (by omega)) | (split <;> omega) | done))
        · refine ⟨(by (try simp only [pre_X14_node_t, Ks64]); (all_goals (repeat' (first | with_reducible intro _ | with_reducible apply And.intro))); all_goals (first | assumption | trivial | (unfold NBP; (try simp only [Ks64]); omega) | (unfold NBQ; (try simp only [Ks64]); omega) | omega | (exact fun hf_ => (A64 (by omega))) | (exact fun hf_ => (F_64 (by omega)).cst) | (exact fun hf_ => I0_64 (by omega)) | (exact fun hf_ => I5_64 (by omega)) | (exact fun hf_ => absurd hf_ (by omega)) | (split <;> omega) | done)), ?_⟩
          intro v98 s98 hv98 Ws98 e98_0 e98_1 e98_2 e98_3 e98_4 e98_5 e98_6 e98_7 e98_8 e98_9 e98_10 e98_11 e98_12 e98_13 e98_14 e98_15 e98_16 e98_17 e98_18 e98_19 e98_20 e98_21 e98_22 q98
          unfold rng at hv98
          unfold post_X14_node_t at q98
          obtain ⟨q98_1, q98_2, q98_3, q98_4, q98_5, q98_6, q98_7, q98_8, q98_9⟩ := q98
          (try simp only [Ks64, NBP, NBQ] at q98_1 q98_2 q98_3 q98_4 q98_5 q98_6 q98_7 q98_8 q98_9 e98_0 e98_1 e98_2 e98_3 e98_4 e98_5 e98_6 e98_7 e98_8 e98_9 e98_10 e98_11 e98_12 e98_13 e98_14 e98_15 e98_16 e98_17 e98_18 e98_19 e98_20 e98_21 e98_22)
          have Ks98 : rR s98 7 = rR σ 7 := by (try simp only [rR_sF, rR_sA, rR_sT, rR_sL] at e98_0 e98_1 e98_2 e98_3 e98_4 e98_5 e98_6 e98_7 e98_8 e98_9 e98_10 e98_11 e98_12 e98_13 e98_14 e98_15 e98_16 e98_17 e98_18 e98_19 e98_20 e98_21 e98_22); omega
          have zr98 := fz_rng s98
          have A98 : Im (fz s98 = 0) (RG σ s98 (rR σ 7) 0) := fun hf => RG.trk hp_2 (A64 (by omega)) q98_3 (by omega)
          have F_98 : Im (fz s98 = 0) _ := fun hf => OQ.rg hp_2 q98_3 (F_64 (by omega))
          have I0_98 : Im (fz s98 = 0) _ := fun hf => (RG.fA hp_2 q98_3).trans (I0_64 (by omega))
          have I5_98 : Im (fz s98 = 0) _ := fun hf => (RG.fA hp_2 q98_3).trans (I5_64 (by omega))
          have rNMp_98 := e98_0 rNMp_64; clear e98_0
          have TPRp_98 := e98_1 TPRp_64; clear e98_1
          have WNp_98 := e98_2 WNp_64; clear e98_2
          have PNp_98 := e98_3 PNp_64; clear e98_3
          have CCp_98 := e98_4 CCp_64; clear e98_4
          have P_h281 : Im (fz s98 = 0) (TS s98 (rR σ 7) 7 v98 0 (rF σ 0 31) 0 (rF s52 (rR σ 7) 7) (rF s98 (rR σ 7) 7) 0 0 (rF s52 (rR σ 7) 32) (rF s98 (rR σ 7) 32)) := fun hf => (TS.lk0 hp_2 q98_4 q98_5 (d := (rF σ 0 31)) (lo := (rF s52 (rR σ 7) 7)) (hi := (rF s98 (rR σ 7) 7)) (u := (rF s52 (rR σ 7) 32))).cst
          have Pn_h282 : Im (fz s98 = 0) (tr s98 (rR σ 7) 5 v98 = 0) := fun hf => q98_9
          refine ⟨fun c104 => ?_, fun c104 => ?_⟩
          · refine ⟨(by (try simp only [Ks98]); (all_goals (repeat' (first | with_reducible intro _ | with_reducible apply And.intro))); all_goals (first | assumption | trivial | (unfold NBP; (try simp only [Ks98]); omega) | (unfold NBQ; (try simp only [Ks98]); omega) | omega | (exact fun hf_ => (A98 (by omega))) | (exact fun hf_ => (F_98 (by omega)).cst) | (exact fun hf_ => I0_98 (by omega)) | (exact fun hf_ => I5_98 (by omega)) | (exact fun hf_ => (P_h281 (by omega)).cst) | (exact fun hf_ => Pn_h282 (by omega)) | (exact fun hf_ => absurd hf_ (by omega)) | (split <;> omega) | done)), ?_⟩
            have I0_131 : Im (fz s98 = 0) _ := fun hf => (tr_ne (f := 5) (i := y52_2) (x := v98) hp_2 (by omega)).trans (I0_98 hf)
            have I5_131 : Im (fz s98 = 0) _ := fun hf => (tr_ne (f := 5) (i := y52_2) (x := v98) hp_2 (by omega)).trans (I5_98 hf)
            have F_h287 : Im (fz s98 = 0) (OQ (sT s98 (rR σ 7) 5 y52_2 v98) (rR σ 7) 7 1 y52_1 v98 (rF σ 0 31) 0 (y52_1 + 1) (rF σ (rR σ 7) 32) (rF s98 (rR σ 7) 7) (rF s98 (rR σ 7) 32)) := fun hf => (OQ.p1 hp_2 (F_98 (by omega)) (P_h281 (by omega)) (Pn_h282 (by omega))).cst
            refine ⟨(by (try simp only [pre_X14_blanks, reduceIte, and_true, true_and, and_false, false_and, and_self, Nat.reduceEqDiff, fz_sA, rF_sA, rA_sA, rR_sA, rF_sT, rR_sT, sT_sF, fz_sT, rA_sT26 hp_2, rA_sT27 hp_2, rA_sT34 hp_2, rA_sT35 hp_2, rA_sT36 hp_2, rA_sT37 hp_2, rA_sT40 hp_2, TPRp_sT hp_2, WNp_sT hp_2, VMp_sT hp_2, KYp_sT hp_2, PPp_sT hp_2, WFp_sT hp_2, CCp_sT hp_2, rNMp_sT5, PNp_sT5, rk_n0 hp_2, Ks98]); (all_goals (repeat' (first | with_reducible intro _ | with_reducible apply And.intro))); all_goals (first | assumption | trivial | (unfold NBP; (try simp only [reduceIte, and_true, true_and, and_false, false_and, and_self, Nat.reduceEqDiff, fz_sA, rF_sA, rA_sA, rR_sA, rF_sT, rR_sT, sT_sF, fz_sT, rA_sT26 hp_2, rA_sT27 hp_2, rA_sT34 hp_2, rA_sT35 hp_2, rA_sT36 hp_2, rA_sT37 hp_2, rA_sT40 hp_2, TPRp_sT hp_2, WNp_sT hp_2, VMp_sT hp_2, KYp_sT hp_2, PPp_sT hp_2, WFp_sT hp_2, CCp_sT hp_2, rNMp_sT5, PNp_sT5, rk_n0 hp_2, Ks98]); omega) | (unfold NBQ; (try simp only [reduceIte, and_true, true_and, and_false, false_and, and_self, Nat.reduceEqDiff, fz_sA, rF_sA, rA_sA, rR_sA, rF_sT, rR_sT, sT_sF, fz_sT, rA_sT26 hp_2, rA_sT27 hp_2, rA_sT34 hp_2, rA_sT35 hp_2, rA_sT36 hp_2, rA_sT37 hp_2, rA_sT40 hp_2, TPRp_sT hp_2, WNp_sT hp_2, VMp_sT hp_2, KYp_sT hp_2, PPp_sT hp_2, WFp_sT hp_2, CCp_sT hp_2, rNMp_sT5, PNp_sT5, rk_n0 hp_2, Ks98]); omega) | omega | (exact fun hf_ => (RG.tst hp_2 (A98 (by omega)) (by decide) (by omega))) | (exact fun hf_ => (F_h287 (by omega)).cst) | (exact fun hf_ => I0_131 (by omega)) | (exact fun hf_ => I5_131 (by omega)) | (exact fun hf_ => absurd hf_ (by omega)) | (split <;> omega) | done)), ?_⟩
            intro s136 Ws136 e136_0 e136_1 e136_2 e136_3 e136_4 e136_5 e136_6 e136_7 e136_8 e136_9 e136_10 e136_11 e136_12 e136_13 e136_14 e136_15 e136_16 e136_17 e136_18 e136_19 e136_20 e136_21 e136_22 R136 q136
            have q136 := dig_blanks q136 (by (try simp only [reduceIte, and_true, true_and, and_false, false_and, and_self, Nat.reduceEqDiff, fz_sA, rF_sA, rA_sA, rR_sA, rF_sT, rR_sT, sT_sF, fz_sT, rA_sT26 hp_2, rA_sT27 hp_2, rA_sT34 hp_2, rA_sT35 hp_2, rA_sT36 hp_2, rA_sT37 hp_2, rA_sT40 hp_2, TPRp_sT hp_2, WNp_sT hp_2, VMp_sT hp_2, KYp_sT hp_2, PPp_sT hp_2, WFp_sT hp_2, CCp_sT hp_2, rNMp_sT5, PNp_sT5, rk_n0 hp_2, Ks98]); omega)
            obtain ⟨q136_1, q136_2⟩ := q136
            (try simp only [reduceIte, and_true, true_and, and_false, false_and, and_self, Nat.reduceEqDiff, fz_sA, rF_sA, rA_sA, rR_sA, rF_sT, rR_sT, sT_sF, fz_sT, rA_sT26 hp_2, rA_sT27 hp_2, rA_sT34 hp_2, rA_sT35 hp_2, rA_sT36 hp_2, rA_sT37 hp_2, rA_sT40 hp_2, TPRp_sT hp_2, WNp_sT hp_2, VMp_sT hp_2, KYp_sT hp_2, PPp_sT hp_2, WFp_sT hp_2, CCp_sT hp_2, rNMp_sT5, PNp_sT5, rk_n0 hp_2, Ks98, NBP, NBQ] at q136_1 q136_2 e136_0 e136_1 e136_2 e136_3 e136_4 e136_5 e136_6 e136_7 e136_8 e136_9 e136_10 e136_11 e136_12 e136_13 e136_14 e136_15 e136_16 e136_17 e136_18 e136_19 e136_20 e136_21 e136_22 R136)
            have Ks136 : rR s136 7 = rR σ 7 := by (try simp only [rR_sF, rR_sA, rR_sT, rR_sL] at e136_0 e136_1 e136_2 e136_3 e136_4 e136_5 e136_6 e136_7 e136_8 e136_9 e136_10 e136_11 e136_12 e136_13 e136_14 e136_15 e136_16 e136_17 e136_18 e136_19 e136_20 e136_21 e136_22 R136); omega
            have zr136 := fz_rng s136
            have A136 : Im (fz s136 = 0) (RG σ s136 (rR σ 7) 0) := fun hf => RG.trk hp_2 (RG.tst hp_2 (A98 (by omega)) (by decide) (by omega)) R136 (by omega)
            have F_136 : Im (fz s136 = 0) _ := fun hf => OQ.rg hp_2 R136 (F_h287 (by omega))
            have I0_136 : Im (fz s136 = 0) _ := fun hf => (RG.fA hp_2 R136).trans (I0_131 (by omega))
            have I5_136 : Im (fz s136 = 0) _ := fun hf => (RG.fA hp_2 R136).trans (I5_131 (by omega))
            have rNMp_136 := e136_0 rNMp_98; clear e136_0
            have TPRp_136 := e136_1 TPRp_98; clear e136_1
            have WNp_136 := e136_2 WNp_98; clear e136_2
            have PNp_136 := e136_3 PNp_98; clear e136_3
            have CCp_136 := e136_4 CCp_98; clear e136_4
            refine ⟨(by (try simp only [pre_X14_here, Ks136]); (all_goals (repeat' (first | with_reducible intro _ | with_reducible apply And.intro))); all_goals (first | assumption | trivial | (unfold NBP; (try simp only [Ks136]); omega) | (unfold NBQ; (try simp only [Ks136]); omega) | omega | (exact fun hf_ => (A136 (by omega))) | (exact fun hf_ => (F_136 (by omega)).cst) | (exact fun hf_ => I0_136 (by omega)) | (exact fun hf_ => I5_136 (by omega)) | (exact fun hf_ => absurd hf_ (by omega)) | (split <;> omega) | done)), ?_⟩
            intro v140 hv140 q140
            unfold rng at hv140
            unfold post_X14_here at q140
            obtain ⟨q140_1, q140_2⟩ := q140
            (try simp only [Ks136, NBP, NBQ] at q140_1 q140_2)
            refine ⟨fun c145 => ?_, fun c145 => ?_⟩
            · exact (by (try simp only [inv_X14_readRow_52, mu_X14_readRow_52, mu_X14_readRow_52, Ks136]); (all_goals (repeat' (first | with_reducible intro _ | with_reducible apply And.intro))); all_goals (first | assumption | trivial | (unfold NBP; (try simp only [Ks136]); omega) | (unfold NBQ; (try simp only [Ks136]); omega) | omega | (exact fun hf_ => (A136 (by omega))) | (exact fun hf_ => (F_136 (by omega)).cst) | (exact fun hf_ => I0_136 (by omega)) | (exact fun hf_ => I5_136 (by omega)) | (exact fun hf_ => absurd hf_ (by omega)) | (split <;> omega) | done))
            · intro hr_; unfold rng at hr_
              refine ⟨(by (try simp only [rng, Ks136]); (all_goals (repeat' (first | with_reducible intro _ | with_reducible apply And.intro))); all_goals (first | assumption | trivial | (unfold NBP; (try simp only [Ks136]); omega) | (unfold NBQ; (try simp only [Ks136]); omega) | omega | (exact fun hf_ => (A136 (by omega))) | (exact fun hf_ => (F_136 (by omega)).cst) | (exact fun hf_ => I0_136 (by omega)) | (exact fun hf_ => I5_136 (by omega)) | (exact fun hf_ => absurd hf_ (by omega)) | (split <;> omega) | done)), ?_⟩
              exact (by (try simp only [inv_X14_readRow_52, mu_X14_readRow_52, mu_X14_readRow_52, reduceIte, and_true, true_and, and_false, false_and, and_self, Nat.reduceEqDiff, fz_sF29, rF_sF, rA_sF, rR_sF, tr_sF, TS_sF, LQ_sF, MI_sF, IG_sF, HQ_sF, OQ_sF, rNMp_sF, PNp_sF, RG_l29, RG_r29, TPRp_sF29, WNp_sF29, VMp_sF29, KYp_sF29, PPp_sF29, WFp_sF29, CCp_sF29, rk_n0 hp_2, Ks136]); (all_goals (repeat' (first | with_reducible intro _ | with_reducible apply And.intro))); all_goals (first | assumption | trivial | (unfold NBP; (try simp only [reduceIte, and_true, true_and, and_false, false_and, and_self, Nat.reduceEqDiff, fz_sF29, rF_sF, rA_sF, rR_sF, tr_sF, TS_sF, LQ_sF, MI_sF, IG_sF, HQ_sF, OQ_sF, rNMp_sF, PNp_sF, RG_l29, RG_r29, TPRp_sF29, WNp_sF29, VMp_sF29, KYp_sF29, PPp_sF29, WFp_sF29, CCp_sF29, rk_n0 hp_2, Ks136]); omega) | (unfold NBQ; (try simp only [reduceIte, and_true, true_and, and_false, false_and, and_self, Nat.reduceEqDiff, fz_sF29, rF_sF, rA_sF, rR_sF, tr_sF, TS_sF, LQ_sF, MI_sF, IG_sF, HQ_sF, OQ_sF, rNMp_sF, PNp_sF, RG_l29, RG_r29, TPRp_sF29, WNp_sF29, VMp_sF29, KYp_sF29, PPp_sF29, WFp_sF29, CCp_sF29, rk_n0 hp_2, Ks136]); omega) | omega | (exact fun hf_ => (A136 (by omega))) | (exact fun hf_ => (F_136 (by omega)).cst) | (exact fun hf_ => I0_136 (by omega)) | (exact fun hf_ => I5_136 (by omega)) | (exact fun hf_ => absurd hf_ (by omega)) | (split <;> omega) | done))
          · refine ⟨(by (try simp only [Ks98]); (all_goals (repeat' (first | with_reducible intro _ | with_reducible apply And.intro))); all_goals (first | assumption | trivial | (unfold NBP; (try simp only [Ks98]); omega) | (unfold NBQ; (try simp only [Ks98]); omega) | omega | (exact fun hf_ => (A98 (by omega))) | (exact fun hf_ => (F_98 (by omega)).cst) | (exact fun hf_ => I0_98 (by omega)) | (exact fun hf_ => I5_98 (by omega)) | (exact fun hf_ => (P_h281 (by omega)).cst) | (exact fun hf_ => Pn_h282 (by omega)) | (exact fun hf_ => absurd hf_ (by omega)) | (split <;> omega) | done)), ?_⟩
            have I0_117 : Im (fz s98 = 0) _ := fun hf => (tr_ne (f := 1) (i := y52_1) (x := v98) hp_2 (by omega)).trans (I0_98 hf)
            have I5_117 : Im (fz s98 = 0) _ := fun hf => (tr_ne (f := 1) (i := y52_1) (x := v98) hp_2 (by omega)).trans (I5_98 hf)
            have F_h318 : Im (fz s98 = 0) (OQ (sT s98 (rR σ 7) 1 y52_1 v98) (rR σ 7) 7 1 y52_1 v98 (rF σ 0 31) 0 (y52_1 + 1) (rF σ (rR σ 7) 32) (rF s98 (rR σ 7) 7) (rF s98 (rR σ 7) 32)) := fun hf => (OQ.p0 hp_2 (F_98 (by omega)) (P_h281 (by omega)) (Pn_h282 (by omega))).cst
            refine ⟨(by (try simp only [pre_X14_blanks, reduceIte, and_true, true_and, and_false, false_and, and_self, Nat.reduceEqDiff, fz_sA, rF_sA, rA_sA, rR_sA, rF_sT, rR_sT, sT_sF, fz_sT, rA_sT26 hp_2, rA_sT27 hp_2, rA_sT34 hp_2, rA_sT35 hp_2, rA_sT36 hp_2, rA_sT37 hp_2, rA_sT40 hp_2, TPRp_sT hp_2, WNp_sT hp_2, VMp_sT hp_2, KYp_sT hp_2, PPp_sT hp_2, WFp_sT hp_2, CCp_sT hp_2, rNMp_sT1, PNp_sT1, rk_n0 hp_2, Ks98]); (all_goals (repeat' (first | with_reducible intro _ | with_reducible apply And.intro))); all_goals (first | assumption | trivial | (unfold NBP; (try simp only [reduceIte, and_true, true_and, and_false, false_and, and_self, Nat.reduceEqDiff, fz_sA, rF_sA, rA_sA, rR_sA, rF_sT, rR_sT, sT_sF, fz_sT, rA_sT26 hp_2, rA_sT27 hp_2, rA_sT34 hp_2, rA_sT35 hp_2, rA_sT36 hp_2, rA_sT37 hp_2, rA_sT40 hp_2, TPRp_sT hp_2, WNp_sT hp_2, VMp_sT hp_2, KYp_sT hp_2, PPp_sT hp_2, WFp_sT hp_2, CCp_sT hp_2, rNMp_sT1, PNp_sT1, rk_n0 hp_2, Ks98]); omega) | (unfold NBQ; (try simp only [reduceIte, and_true, true_and, and_false, false_and, and_self, Nat.reduceEqDiff, fz_sA, rF_sA, rA_sA, rR_sA, rF_sT, rR_sT, sT_sF, fz_sT, rA_sT26 hp_2, rA_sT27 hp_2, rA_sT34 hp_2, rA_sT35 hp_2, rA_sT36 hp_2, rA_sT37 hp_2, rA_sT40 hp_2, TPRp_sT hp_2, WNp_sT hp_2, VMp_sT hp_2, KYp_sT hp_2, PPp_sT hp_2, WFp_sT hp_2, CCp_sT hp_2, rNMp_sT1, PNp_sT1, rk_n0 hp_2, Ks98]); omega) | omega | (exact fun hf_ => (RG.tst hp_2 (A98 (by omega)) (by decide) (by omega))) | (exact fun hf_ => (F_h318 (by omega)).cst) | (exact fun hf_ => I0_117 (by omega)) | (exact fun hf_ => I5_117 (by omega)) | (exact fun hf_ => absurd hf_ (by omega)) | (split <;> omega) | done)), ?_⟩
            intro s136 Ws136 e136_0 e136_1 e136_2 e136_3 e136_4 e136_5 e136_6 e136_7 e136_8 e136_9 e136_10 e136_11 e136_12 e136_13 e136_14 e136_15 e136_16 e136_17 e136_18 e136_19 e136_20 e136_21 e136_22 R136 q136
            have q136 := dig_blanks q136 (by (try simp only [reduceIte, and_true, true_and, and_false, false_and, and_self, Nat.reduceEqDiff, fz_sA, rF_sA, rA_sA, rR_sA, rF_sT, rR_sT, sT_sF, fz_sT, rA_sT26 hp_2, rA_sT27 hp_2, rA_sT34 hp_2, rA_sT35 hp_2, rA_sT36 hp_2, rA_sT37 hp_2, rA_sT40 hp_2, TPRp_sT hp_2, WNp_sT hp_2, VMp_sT hp_2, KYp_sT hp_2, PPp_sT hp_2, WFp_sT hp_2, CCp_sT hp_2, rNMp_sT1, PNp_sT1, rk_n0 hp_2, Ks98]); omega)
            obtain ⟨q136_1, q136_2⟩ := q136
            (try simp only [reduceIte, and_true, true_and, and_false, false_and, and_self, Nat.reduceEqDiff, fz_sA, rF_sA, rA_sA, rR_sA, rF_sT, rR_sT, sT_sF, fz_sT, rA_sT26 hp_2, rA_sT27 hp_2, rA_sT34 hp_2, rA_sT35 hp_2, rA_sT36 hp_2, rA_sT37 hp_2, rA_sT40 hp_2, TPRp_sT hp_2, WNp_sT hp_2, VMp_sT hp_2, KYp_sT hp_2, PPp_sT hp_2, WFp_sT hp_2, CCp_sT hp_2, rNMp_sT1, PNp_sT1, rk_n0 hp_2, Ks98, NBP, NBQ] at q136_1 q136_2 e136_0 e136_1 e136_2 e136_3 e136_4 e136_5 e136_6 e136_7 e136_8 e136_9 e136_10 e136_11 e136_12 e136_13 e136_14 e136_15 e136_16 e136_17 e136_18 e136_19 e136_20 e136_21 e136_22 R136)
            have Ks136 : rR s136 7 = rR σ 7 := by (try simp only [rR_sF, rR_sA, rR_sT, rR_sL] at e136_0 e136_1 e136_2 e136_3 e136_4 e136_5 e136_6 e136_7 e136_8 e136_9 e136_10 e136_11 e136_12 e136_13 e136_14 e136_15 e136_16 e136_17 e136_18 e136_19 e136_20 e136_21 e136_22 R136); omega
            have zr136 := fz_rng s136
            have A136 : Im (fz s136 = 0) (RG σ s136 (rR σ 7) 0) := fun hf => RG.trk hp_2 (RG.tst hp_2 (A98 (by omega)) (by decide) (by omega)) R136 (by omega)
            have F_136 : Im (fz s136 = 0) _ := fun hf => OQ.rg hp_2 R136 (F_h318 (by omega))
            have I0_136 : Im (fz s136 = 0) _ := fun hf => (RG.fA hp_2 R136).trans (I0_117 (by omega))
            have I5_136 : Im (fz s136 = 0) _ := fun hf => (RG.fA hp_2 R136).trans (I5_117 (by omega))
            have rNMp_136 := e136_0 rNMp_98; clear e136_0
            have TPRp_136 := e136_1 TPRp_98; clear e136_1
            have WNp_136 := e136_2 WNp_98; clear e136_2
            have PNp_136 := e136_3 PNp_98; clear e136_3
            have CCp_136 := e136_4 CCp_98; clear e136_4
            refine ⟨(by (try simp only [pre_X14_here, Ks136]); (all_goals (repeat' (first | with_reducible intro _ | with_reducible apply And.intro))); all_goals (first | assumption | trivial | (unfold NBP; (try simp only [Ks136]); omega) | (unfold NBQ; (try simp only [Ks136]); omega) | omega | (exact fun hf_ => (A136 (by omega))) | (exact fun hf_ => (F_136 (by omega)).cst) | (exact fun hf_ => I0_136 (by omega)) | (exact fun hf_ => I5_136 (by omega)) | (exact fun hf_ => absurd hf_ (by omega)) | (split <;> omega) | done)), ?_⟩
            intro v140 hv140 q140
            unfold rng at hv140
            unfold post_X14_here at q140
            obtain ⟨q140_1, q140_2⟩ := q140
            (try simp only [Ks136, NBP, NBQ] at q140_1 q140_2)
            refine ⟨fun c145 => ?_, fun c145 => ?_⟩
            · exact (by (try simp only [inv_X14_readRow_52, mu_X14_readRow_52, mu_X14_readRow_52, Ks136]); (all_goals (repeat' (first | with_reducible intro _ | with_reducible apply And.intro))); all_goals (first | assumption | trivial | (unfold NBP; (try simp only [Ks136]); omega) | (unfold NBQ; (try simp only [Ks136]); omega) | omega | (exact fun hf_ => (A136 (by omega))) | (exact fun hf_ => (F_136 (by omega)).cst) | (exact fun hf_ => I0_136 (by omega)) | (exact fun hf_ => I5_136 (by omega)) | (exact fun hf_ => absurd hf_ (by omega)) | (split <;> omega) | done))
            · intro hr_; unfold rng at hr_
              refine ⟨(by (try simp only [rng, Ks136]); (all_goals (repeat' (first | with_reducible intro _ | with_reducible apply And.intro))); all_goals (first | assumption | trivial | (unfold NBP; (try simp only [Ks136]); omega) | (unfold NBQ; (try simp only [Ks136]); omega) | omega | (exact fun hf_ => (A136 (by omega))) | (exact fun hf_ => (F_136 (by omega)).cst) | (exact fun hf_ => I0_136 (by omega)) | (exact fun hf_ => I5_136 (by omega)) | (exact fun hf_ => absurd hf_ (by omega)) | (split <;> omega) | done)), ?_⟩
              exact (by (try simp only [inv_X14_readRow_52, mu_X14_readRow_52, mu_X14_readRow_52, reduceIte, and_true, true_and, and_false, false_and, and_self, Nat.reduceEqDiff, fz_sF29, rF_sF, rA_sF, rR_sF, tr_sF, TS_sF, LQ_sF, MI_sF, IG_sF, HQ_sF, OQ_sF, rNMp_sF, PNp_sF, RG_l29, RG_r29, TPRp_sF29, WNp_sF29, VMp_sF29, KYp_sF29, PPp_sF29, WFp_sF29, CCp_sF29, rk_n0 hp_2, Ks136]); (all_goals (repeat' (first | with_reducible intro _ | with_reducible apply And.intro))); all_goals (first | assumption | trivial | (unfold NBP; (try simp only [reduceIte, and_true, true_and, and_false, false_and, and_self, Nat.reduceEqDiff, fz_sF29, rF_sF, rA_sF, rR_sF, tr_sF, TS_sF, LQ_sF, MI_sF, IG_sF, HQ_sF, OQ_sF, rNMp_sF, PNp_sF, RG_l29, RG_r29, TPRp_sF29, WNp_sF29, VMp_sF29, KYp_sF29, PPp_sF29, WFp_sF29, CCp_sF29, rk_n0 hp_2, Ks136]); omega) | (unfold NBQ; (try simp only [reduceIte, and_true, true_and, and_false, false_and, and_self, Nat.reduceEqDiff, fz_sF29, rF_sF, rA_sF, rR_sF, tr_sF, TS_sF, LQ_sF, MI_sF, IG_sF, HQ_sF, OQ_sF, rNMp_sF, PNp_sF, RG_l29, RG_r29, TPRp_sF29, WNp_sF29, VMp_sF29, KYp_sF29, PPp_sF29, WFp_sF29, CCp_sF29, rk_n0 hp_2, Ks136]); omega) | omega | (exact fun hf_ => (A136 (by omega))) | (exact fun hf_ => (F_136 (by omega)).cst) | (exact fun hf_ => I0_136 (by omega)) | (exact fun hf_ => I5_136 (by omega)) | (exact fun hf_ => absurd hf_ (by omega)) | (split <;> omega) | done))
set_option maxHeartbeats 4000000 in
theorem vX14_readRow_52m (n : Nat) (σ : rS) (gg : Nat) (hwf : rWF σ) (hp : pre_X14_readRow σ gg) (hr : rk_X14_readRow σ gg ≤ n + 1) : VC_X14_readRow_52m n σ gg := by
  unfold pre_X14_readRow at hp
  obtain ⟨hp_1, hp_2, hp_3, hp_4, hp_5, hp_6, hp_7, hp_8, hp_9⟩ := hp
  subst hp_1
  unfold rk_X14_readRow at hr
  have hN := hp_4
  unfold NBP at hN
  have hC := hp_3
  unfold CCp at hC
  obtain ⟨hC1, hC⟩ := hC
  have zr0 := fz_rng σ
  have hr2 : fz σ = 0 → 16 * (21 - rF σ 0 31).toNat + 4 ≤ n + 1 := fun h => by rw [if_pos h] at hr; exact hr
  have hr3 : 4 ≤ n + 1 := by have := hr; split at this <;> omega
  clear hr
  unfold VC_X14_readRow_52m
  (try simp only [inv_X14_readRow_52, mu_X14_readRow_52]); (all_goals (repeat' (first | with_reducible intro _ | with_reducible apply And.intro))); all_goals (first | assumption | omega | grind (splits := 20))
