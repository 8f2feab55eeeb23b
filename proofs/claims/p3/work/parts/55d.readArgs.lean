set_option maxHeartbeats 4000000 in
theorem vX14_readArgs (n : Nat) (σ : rS) (x1 : Int) (gg : Nat) (hwf : rWF σ) (hx1 : rng x1) (hp : pre_X14_readArgs σ x1 gg) (hr : rk_X14_readArgs σ x1 gg ≤ n + 1) : VC_X14_readArgs n σ x1 gg (post_X14_readArgs σ x1 gg) := by
  unfold pre_X14_readArgs at hp
  obtain ⟨hp_1, hp_2, hp_3, hp_4, hp_5, hp_6, hp_7, hp_8, hp_9, hp_10⟩ := hp
  unfold rng at hx1
  subst hp_1
  unfold rk_X14_readArgs at hr
  have hN := hp_4
  unfold NBP at hN
  have hC := hp_3
  unfold CCp at hC
  obtain ⟨hC1, hC⟩ := hC
  have zr0 := fz_rng σ
  have hr2 : fz σ = 0 → 16 * (21 - rF σ 0 31).toNat + 3 ≤ n + 1 := fun h => by rw [if_pos h] at hr; exact hr
  have hr3 : 3 ≤ n + 1 := by have := hr; split at this <;> omega
  clear hr
  unfold VC_X14_readArgs
  refine ⟨(by (all_goals (repeat' (first | with_reducible intro _ | with_reducible apply And.intro))); all_goals (first | assumption | trivial | (unfold NBP; omega) | (unfold NBQ; omega) | omega | (exact fun hf_ => absurd hf_ (by omega)) | (split <;> omega) | (exact ⟨_, _, _, _, _, _, X73, by omega, by omega⟩) | done)), ?_⟩
  refine ⟨(by (try simp only [pre_X14_blanks]); (all_goals (repeat' (first | with_reducible intro _ | with_reducible apply And.intro))); all_goals (first | assumption | trivial | (unfold NBP; omega) | (unfold NBQ; omega) | omega | (exact fun hf_ => ((fun _ => RG.rf) (by omega))) | (exact fun hf_ => hp_10 (by omega)) | (exact fun hf_ => absurd hf_ (by omega)) | (split <;> omega) | (exact ⟨_, _, _, _, _, _, X73, by omega, by omega⟩) | done)), ?_⟩
  intro s1 Ws1 e1_0 e1_1 e1_2 e1_3 e1_4 e1_5 e1_6 e1_7 e1_8 e1_9 e1_10 e1_11 e1_12 e1_13 e1_14 e1_15 e1_16 e1_17 e1_18 e1_19 e1_20 e1_21 e1_22 R1 q1
  have q1 := dig_blanks q1 (by omega)
  obtain ⟨q1_1, q1_2⟩ := q1
  (try simp only [NBP, NBQ] at q1_1 q1_2 e1_0 e1_1 e1_2 e1_3 e1_4 e1_5 e1_6 e1_7 e1_8 e1_9 e1_10 e1_11 e1_12 e1_13 e1_14 e1_15 e1_16 e1_17 e1_18 e1_19 e1_20 e1_21 e1_22 R1)
  have Ks1 : rR s1 7 = rR σ 7 := by (try simp only [rR_sF, rR_sA, rR_sT, rR_sL] at e1_0 e1_1 e1_2 e1_3 e1_4 e1_5 e1_6 e1_7 e1_8 e1_9 e1_10 e1_11 e1_12 e1_13 e1_14 e1_15 e1_16 e1_17 e1_18 e1_19 e1_20 e1_21 e1_22 R1); omega
  have zr1 := fz_rng s1
  have A1 : Im (fz s1 = 0) (RG σ s1 (rR σ 7) x1) := fun hf => RG.trk hp_2 ((fun _ => RG.rf) (by omega)) R1 (by omega)
  have C2_1 : Im (fz s1 = 0) _ := fun hf => (RG.fA hp_2 R1).trans (hp_10 (by omega))
  have rNMp_1 := e1_0 hp_5; clear e1_0
  have TPRp_1 := e1_1 hC1; clear e1_1
  have WNp_1 := e1_2 hp_6; clear e1_2
  have PNp_1 := e1_3 hp_7; clear e1_3
  have CCp_1 := e1_4 hp_3; clear e1_4
  intro hr_; unfold rng at hr_
  refine ⟨fun c8 => ?_, fun c8 => ?_⟩
  · have z8 := fz_z c8
    refine ⟨(by (try simp only [pre_X14_here, Ks1]); (all_goals (repeat' (first | with_reducible intro _ | with_reducible apply And.intro))); all_goals (first | assumption | trivial | (unfold NBP; (try simp only [Ks1]); omega) | (unfold NBQ; (try simp only [Ks1]); omega) | omega | (exact fun hf_ => (A1 (by omega))) | (exact fun hf_ => C2_1 (by omega)) | (exact fun hf_ => absurd hf_ (by omega)) | (split <;> omega) | (exact ⟨_, _, _, _, _, _, X73, by omega, by omega⟩) | done)), ?_⟩
    intro v13 hv13 q13
    unfold rng at hv13
    unfold post_X14_here at q13
    obtain ⟨q13_1, q13_2⟩ := q13
    (try simp only [Ks1, NBP, NBQ] at q13_1 q13_2)
    refine ⟨fun c18 => ?_, fun c18 => ?_⟩
    · refine ⟨(by (try simp only [pre_X14_isDots, Ks1]); (all_goals (repeat' (first | with_reducible intro _ | with_reducible apply And.intro))); all_goals (first | assumption | trivial | (unfold NBP; (try simp only [Ks1]); omega) | (unfold NBQ; (try simp only [Ks1]); omega) | omega | (exact fun hf_ => (A1 (by omega))) | (exact fun hf_ => C2_1 (by omega)) | (exact fun hf_ => absurd hf_ (by omega)) | (split <;> omega) | (exact ⟨_, _, _, _, _, _, X73, by omega, by omega⟩) | done)), ?_⟩
      intro v33 hv33 q33
      unfold rng at hv33
      unfold post_X14_isDots at q33
      obtain ⟨q33_1, q33_2⟩ := q33
      (try simp only [Ks1, NBP, NBQ] at q33_1 q33_2)
      refine ⟨fun c36 => ?_, fun c36 => ?_⟩
      · refine ⟨(by (try simp only [pre_X14_isNamed, Ks1]); (all_goals (repeat' (first | with_reducible intro _ | with_reducible apply And.intro))); all_goals (first | assumption | trivial | (unfold NBP; (try simp only [Ks1]); omega) | (unfold NBQ; (try simp only [Ks1]); omega) | omega | (exact fun hf_ => (A1 (by omega))) | (exact fun hf_ => C2_1 (by omega)) | (exact fun hf_ => absurd hf_ (by omega)) | (split <;> omega) | (exact ⟨_, _, _, _, _, _, X73, by omega, by omega⟩) | done)), ?_⟩
        intro v46 hv46 q46
        unfold rng at hv46
        unfold post_X14_isNamed at q46
        (try simp only [Ks1, NBP, NBQ] at q46)
        have F_h37 : Im (fz s1 = 0) (OQ s1 (rR σ 7) 6 2 x1 0 (rF σ 0 31) 0 (rF σ (rR σ 7) 7) (rF σ (rR σ 7) 32) (rF s1 (rR σ 7) 7) (rF s1 (rR σ 7) 32)) := fun hf => (OQ.init (C2_1 hf) (d := (rF σ 0 31)) (lo := (rF σ (rR σ 7) 7)) (u := (rF σ (rR σ 7) 32)) (hi := (rF s1 (rR σ 7) 7))).cst
        exact (by (try simp only [inv_X14_readArgs_55, Ks1]); (all_goals (repeat' (first | with_reducible intro _ | with_reducible apply And.intro))); all_goals (first | assumption | trivial | (unfold NBP; (try simp only [Ks1]); omega) | (unfold NBQ; (try simp only [Ks1]); omega) | omega | (exact fun hf_ => (A1 (by omega))) | (exact fun hf_ => C2_1 (by omega)) | (exact fun hf_ => (F_h37 (by omega)).cst) | (exact fun hf_ => absurd hf_ (by omega)) | (split <;> omega) | (exact ⟨_, _, _, _, _, _, X73, by omega, by omega⟩) | done))
      · refine ⟨(by (try simp only [pre_X14_dots_t, Ks1]); (all_goals (repeat' (first | with_reducible intro _ | with_reducible apply And.intro))); all_goals (first | assumption | trivial | (unfold NBP; (try simp only [Ks1]); omega) | (unfold NBQ; (try simp only [Ks1]); omega) | omega | (exact fun hf_ => (A1 (by omega))) | (exact fun hf_ => C2_1 (by omega)) | (exact fun hf_ => absurd hf_ (by omega)) | (split <;> omega) | (exact ⟨_, _, _, _, _, _, X73, by omega, by omega⟩) | done)), ?_⟩
        intro s41 Ws41 e41_0 e41_1 e41_2 e41_3 e41_4 e41_5 e41_6 e41_7 e41_8 e41_9 e41_10 e41_11 e41_12 e41_13 e41_14 e41_15 e41_16 e41_17 e41_18 e41_19 e41_20 q41
        unfold post_X14_dots_t at q41
        obtain ⟨q41_1, q41_2, q41_3, q41_4, q41_5, q41_6⟩ := q41
        (try simp only [Ks1, NBP, NBQ] at q41_1 q41_2 q41_3 q41_4 q41_5 q41_6 e41_0 e41_1 e41_2 e41_3 e41_4 e41_5 e41_6 e41_7 e41_8 e41_9 e41_10 e41_11 e41_12 e41_13 e41_14 e41_15 e41_16 e41_17 e41_18 e41_19 e41_20)
        have Ks41 : rR s41 7 = rR σ 7 := by (try simp only [rR_sF, rR_sA, rR_sT, rR_sL] at e41_0 e41_1 e41_2 e41_3 e41_4 e41_5 e41_6 e41_7 e41_8 e41_9 e41_10 e41_11 e41_12 e41_13 e41_14 e41_15 e41_16 e41_17 e41_18 e41_19 e41_20); omega
        have zr41 := fz_rng s41
        have A41 : Im (fz s41 = 0) (RG σ s41 (rR σ 7) x1) := fun hf => RG.trk hp_2 (A1 (by omega)) (q41_4 hf) (by omega)
        have rNMp_41 := e41_0 rNMp_1; clear e41_0
        have TPRp_41 := e41_1 TPRp_1; clear e41_1
        have WNp_41 := e41_2 WNp_1; clear e41_2
        have PNp_41 := e41_3 PNp_1; clear e41_3
        have CCp_41 := e41_4 CCp_1; clear e41_4
        have C2_h52 : Im (fz s41 = 0) (tr s41 (rR σ 7) 2 x1 = 0) := fun hf => (q41_6 hf).trans (C2_1 (by omega))
        have T_h53 : Im (fz s41 = 0) (TS s41 (rR σ 7) 106 (tr s41 (rR σ 7) 2 x1) 0 (rF σ 0 31) 0 (rF σ (rR σ 7) 7) (rF s41 (rR σ 7) 7) 0 0 (rF σ (rR σ 7) 32) (rF s41 (rR σ 7) 32)) := fun hf => by rw [C2_h52 hf]; exact (TS.nl (d := (rF σ 0 31)) (lo := (rF σ (rR σ 7) 7)) (hi := (rF σ (rR σ 7) 7)) (u := (rF σ (rR σ 7) 32))).cst
        exact (by (try simp only [post_X14_readArgs, Ks41]); (all_goals (repeat' (first | with_reducible intro _ | with_reducible apply And.intro))); all_goals (first | assumption | trivial | (unfold NBP; (try simp only [Ks41]); omega) | (unfold NBQ; (try simp only [Ks41]); omega) | omega | (exact fun hf_ => (A41 (by omega))) | (exact fun hf_ => C2_h52 (by omega)) | (exact fun hf_ => (T_h53 (by omega)).cst) | (exact fun hf_ => absurd hf_ (by omega)) | (split <;> omega) | (exact ⟨_, _, _, _, _, _, X73, by omega, by omega⟩) | done))
    · intro hr_; unfold rng at hr_
      refine ⟨(by (try simp only [rng, Ks1]); (all_goals (repeat' (first | with_reducible intro _ | with_reducible apply And.intro))); all_goals (first | assumption | trivial | (unfold NBP; (try simp only [Ks1]); omega) | (unfold NBQ; (try simp only [Ks1]); omega) | omega | (exact fun hf_ => (A1 (by omega))) | (exact fun hf_ => C2_1 (by omega)) | (exact fun hf_ => absurd hf_ (by omega)) | (split <;> omega) | (exact ⟨_, _, _, _, _, _, X73, by omega, by omega⟩) | done)), ?_⟩
      have T_h57 : Im (fz s1 = 0) (TS s1 (rR σ 7) 106 (tr s1 (rR σ 7) 2 x1) 0 (rF σ 0 31) 0 (rF σ (rR σ 7) 7) (rF s1 (rR σ 7) 7) 0 0 (rF σ (rR σ 7) 32) (rF s1 (rR σ 7) 32)) := fun hf => by rw [C2_1 hf]; exact (TS.nl (d := (rF σ 0 31)) (lo := (rF σ (rR σ 7) 7)) (hi := (rF σ (rR σ 7) 7)) (u := (rF σ (rR σ 7) 32))).cst
      exact (by (try simp only [post_X14_readArgs, reduceIte, and_true, true_and, and_false, false_and, and_self, Nat.reduceEqDiff, fz_sF29, rF_sF, rA_sF, rR_sF, tr_sF, TS_sF, LQ_sF, MI_sF, IG_sF, HQ_sF, OQ_sF, rNMp_sF, PNp_sF, RG_l29, RG_r29, TPRp_sF29, WNp_sF29, VMp_sF29, KYp_sF29, PPp_sF29, WFp_sF29, CCp_sF29, rk_n0 hp_2, Ks1]); (all_goals (repeat' (first | with_reducible intro _ | with_reducible apply And.intro))); all_goals (first | assumption | trivial | (unfold NBP; (try simp only [reduceIte, and_true, true_and, and_false, false_and, and_self, Nat.reduceEqDiff, fz_sF29, rF_sF, rA_sF, rR_sF, tr_sF, TS_sF, LQ_sF, MI_sF, IG_sF, HQ_sF, OQ_sF, rNMp_sF, PNp_sF, RG_l29, RG_r29, TPRp_sF29, WNp_sF29, VMp_sF29, KYp_sF29, PPp_sF29, WFp_sF29, CCp_sF29, rk_n0 hp_2, Ks1]); omega) | (unfold NBQ; (try simp only [reduceIte, and_true, true_and, and_false, false_and, and_self, Nat.reduceEqDiff, fz_sF29, rF_sF, rA_sF, rR_sF, tr_sF, TS_sF, LQ_sF, MI_sF, IG_sF, HQ_sF, OQ_sF, rNMp_sF, PNp_sF, RG_l29, RG_r29, TPRp_sF29, WNp_sF29, VMp_sF29, KYp_sF29, PPp_sF29, WFp_sF29, CCp_sF29, rk_n0 hp_2, Ks1]); omega) | omega | (exact fun hf_ => (A1 (by omega))) | (exact fun hf_ => C2_1 (by omega)) | (exact fun hf_ => (T_h57 (by omega)).cst) | (exact fun hf_ => absurd hf_ (by omega)) | (split <;> omega) | (exact ⟨_, _, _, _, _, _, X73, by omega, by omega⟩) | done))
  · have z8 := fz_n c8
    exact (by (try simp only [post_X14_readArgs, Ks1]); (all_goals (repeat' (first | with_reducible intro _ | with_reducible apply And.intro))); all_goals (first | assumption | trivial | (unfold NBP; (try simp only [Ks1]); omega) | (unfold NBQ; (try simp only [Ks1]); omega) | omega | (exact fun hf_ => (A1 (by omega))) | (exact fun hf_ => C2_1 (by omega)) | (exact fun hf_ => absurd hf_ (by omega)) | (split <;> omega) | (exact ⟨_, _, _, _, _, _, X73, by omega, by omega⟩) | done))
set_option maxHeartbeats 4000000 in
theorem vX14_readArgs_55 (n : Nat) (σ : rS) (x1 : Int) (gg : Nat) (hwf : rWF σ) (hx1 : rng x1) (hp : pre_X14_readArgs σ x1 gg) (hr : rk_X14_readArgs σ x1 gg ≤ n + 1) : VC_X14_readArgs_55 n σ x1 gg (post_X14_readArgs σ x1 gg) := by
  unfold pre_X14_readArgs at hp
  obtain ⟨hp_1, hp_2, hp_3, hp_4, hp_5, hp_6, hp_7, hp_8, hp_9, hp_10⟩ := hp
  unfold rng at hx1
  subst hp_1
  unfold rk_X14_readArgs at hr
  have hN := hp_4
  unfold NBP at hN
  have hC := hp_3
  unfold CCp at hC
  obtain ⟨hC1, hC⟩ := hC
  have zr0 := fz_rng σ
  have hr2 : fz σ = 0 → 16 * (21 - rF σ 0 31).toNat + 3 ≤ n + 1 := fun h => by rw [if_pos h] at hr; exact hr
  have hr3 : 3 ≤ n + 1 := by have := hr; split at this <;> omega
  clear hr
  unfold VC_X14_readArgs_55
  intro s55 y55_2 y55_3 y55_4 Ws55 hy55_2 hy55_3 hy55_4 e55_0 e55_1 e55_2 e55_3 e55_4 e55_5 e55_6 e55_7 e55_8 e55_9 I55
  have Ks55 : rR s55 7 = rR σ 7 := by omega
  unfold inv_X14_readArgs_55 at I55
  obtain ⟨I55_1, I55_2, I55_3, I55_4, I55_5, I55_6, I55_7, I55_8, I55_9, I55_10, I55_11, I55_12⟩ := I55
  (try simp only [Ks55, NBP, NBQ] at I55_1 I55_2 I55_3 I55_4 I55_5 I55_6 I55_7 I55_8 I55_9 I55_10 I55_11 I55_12)
  have zr55 := fz_rng s55
  have TPRp_55 := e55_0 hC1; clear e55_0
  have CCp_55 := e55_1 hp_3; clear e55_1
  refine ⟨fun c57 => ?_, fun c57 => ?_⟩
  · refine ⟨(by (try simp only [pre_X14_need, Ks55]); (all_goals (repeat' (first | with_reducible intro _ | with_reducible apply And.intro))); all_goals (first | assumption | trivial | (unfold NBP; (try simp only [Ks55]); omega) | (unfold NBQ; (try simp only [Ks55]); omega) | omega | (exact fun hf_ => (I55_6 (by omega))) | (exact fun hf_ => (I55_12 (by omega)).cst) | (exact fun hf_ => absurd hf_ (by omega)) | (split <;> omega) | (exact ⟨_, _, _, _, _, _, X73, by omega, by omega⟩) | done)), ?_⟩
    intro s195 Ws195 e195_0 e195_1 e195_2 e195_3 e195_4 e195_5 e195_6 e195_7 e195_8 e195_9 e195_10 e195_11 e195_12 e195_13 e195_14 e195_15 e195_16 e195_17 e195_18 e195_19 e195_20 R195 q195
    have q195 := dig_need q195 (by (try simp only [Ks55]); omega)
    obtain ⟨q195_1, q195_2, q195_3, q195_4⟩ := q195
    (try simp only [Ks55, NBP, NBQ] at q195_1 q195_2 q195_3 q195_4 e195_0 e195_1 e195_2 e195_3 e195_4 e195_5 e195_6 e195_7 e195_8 e195_9 e195_10 e195_11 e195_12 e195_13 e195_14 e195_15 e195_16 e195_17 e195_18 e195_19 e195_20 R195)
    have Ks195 : rR s195 7 = rR σ 7 := by (try simp only [rR_sF, rR_sA, rR_sT, rR_sL] at e195_0 e195_1 e195_2 e195_3 e195_4 e195_5 e195_6 e195_7 e195_8 e195_9 e195_10 e195_11 e195_12 e195_13 e195_14 e195_15 e195_16 e195_17 e195_18 e195_19 e195_20 R195); omega
    have zr195 := fz_rng s195
    have A195 : Im (fz s195 = 0) (RG σ s195 (rR σ 7) x1) := fun hf => RG.trk hp_2 (I55_6 (by omega)) R195 (by omega)
    have F_195 : Im (fz s195 = 0) _ := fun hf => OQ.rg hp_2 R195 (I55_12 (by omega))
    have rNMp_195 := e195_0 I55_3; clear e195_0
    have TPRp_195 := e195_1 TPRp_55; clear e195_1
    have WNp_195 := e195_2 I55_4; clear e195_2
    have PNp_195 := e195_3 I55_5; clear e195_3
    have CCp_195 := e195_4 CCp_55; clear e195_4
    have T_h23 : Im (fz s195 = 0) (TS s195 (rR σ 7) 106 (tr s195 (rR σ 7) 2 x1) 0 (rF σ 0 31) 0 (rF σ (rR σ 7) 7) (rF s195 (rR σ 7) 7) 0 0 (rF σ (rR σ 7) 32) (rF s195 (rR σ 7) 32)) := fun hf => (OQ.done (F_195 hf)).cst
    exact (by (try simp only [post_X14_readArgs, Ks195]); (all_goals (repeat' (first | with_reducible intro _ | with_reducible apply And.intro))); all_goals (first | assumption | trivial | (unfold NBP; (try simp only [Ks195]); omega) | (unfold NBQ; (try simp only [Ks195]); omega) | omega | (exact fun hf_ => (A195 (by omega))) | (exact fun hf_ => (F_195 (by omega)).cst) | (exact fun hf_ => (T_h23 (by omega)).cst) | (exact fun hf_ => absurd hf_ (by omega)) | (split <;> omega) | (exact ⟨_, _, _, _, _, _, X73, by omega, by omega⟩) | done))
  · intro hr_; unfold rng at hr_
    refine ⟨fun c64 => ?_, fun c64 => ?_⟩
    · have z64 := fz_n c64
      refine ⟨(by (try simp only [pre_X14_need, Ks55]); (all_goals (repeat' (first | with_reducible intro _ | with_reducible apply And.intro))); all_goals (first | assumption | trivial | (unfold NBP; (try simp only [Ks55]); omega) | (unfold NBQ; (try simp only [Ks55]); omega) | omega | (exact fun hf_ => (I55_6 (by omega))) | (exact fun hf_ => (I55_12 (by omega)).cst) | (exact fun hf_ => absurd hf_ (by omega)) | (split <;> omega) | (exact ⟨_, _, _, _, _, _, X73, by omega, by omega⟩) | done)), ?_⟩
      intro s195 Ws195 e195_0 e195_1 e195_2 e195_3 e195_4 e195_5 e195_6 e195_7 e195_8 e195_9 e195_10 e195_11 e195_12 e195_13 e195_14 e195_15 e195_16 e195_17 e195_18 e195_19 e195_20 R195 q195
      have q195 := dig_need q195 (by (try simp only [Ks55]); omega)
      obtain ⟨q195_1, q195_2, q195_3, q195_4⟩ := q195
      (try simp only [Ks55, NBP, NBQ] at q195_1 q195_2 q195_3 q195_4 e195_0 e195_1 e195_2 e195_3 e195_4 e195_5 e195_6 e195_7 e195_8 e195_9 e195_10 e195_11 e195_12 e195_13 e195_14 e195_15 e195_16 e195_17 e195_18 e195_19 e195_20 R195)
      have Ks195 : rR s195 7 = rR σ 7 := by (try simp only [rR_sF, rR_sA, rR_sT, rR_sL] at e195_0 e195_1 e195_2 e195_3 e195_4 e195_5 e195_6 e195_7 e195_8 e195_9 e195_10 e195_11 e195_12 e195_13 e195_14 e195_15 e195_16 e195_17 e195_18 e195_19 e195_20 R195); omega
      have zr195 := fz_rng s195
      have A195 : Im (fz s195 = 0) (RG σ s195 (rR σ 7) x1) := fun hf => RG.trk hp_2 (I55_6 (by omega)) R195 (by omega)
      have F_195 : Im (fz s195 = 0) _ := fun hf => OQ.rg hp_2 R195 (I55_12 (by omega))
      have rNMp_195 := e195_0 I55_3; clear e195_0
      have TPRp_195 := e195_1 TPRp_55; clear e195_1
      have WNp_195 := e195_2 I55_4; clear e195_2
      have PNp_195 := e195_3 I55_5; clear e195_3
      have CCp_195 := e195_4 CCp_55; clear e195_4
      have T_h42 : Im (fz s195 = 0) (TS s195 (rR σ 7) 106 (tr s195 (rR σ 7) 2 x1) 0 (rF σ 0 31) 0 (rF σ (rR σ 7) 7) (rF s195 (rR σ 7) 7) 0 0 (rF σ (rR σ 7) 32) (rF s195 (rR σ 7) 32)) := fun hf => (OQ.done (F_195 hf)).cst
      exact (by (try simp only [post_X14_readArgs, Ks195]); (all_goals (repeat' (first | with_reducible intro _ | with_reducible apply And.intro))); all_goals (first | assumption | trivial | (unfold NBP; (try simp only [Ks195]); omega) | (unfold NBQ; (try simp only [Ks195]); omega) | omega | (exact fun hf_ => (A195 (by omega))) | (exact fun hf_ => (F_195 (by omega)).cst) | (exact fun hf_ => (T_h42 (by omega)).cst) | (exact fun hf_ => absurd hf_ (by omega)) | (split <;> omega) | (exact ⟨_, _, _, _, _, _, X73, by omega, by omega⟩) | done))
    · have z64 := fz_z c64
      refine ⟨fun c68 => ?_, fun c68 => ?_⟩
      · refine ⟨(by (try simp only [pre_X14_readArg, Ks55]); (all_goals (repeat' (first | with_reducible intro _ | with_reducible apply And.intro))); all_goals (first | assumption | trivial | (unfold NBP; (try simp only [Ks55]); omega) | (unfold NBQ; (try simp only [Ks55]); omega) | omega | (exact fun hf_ => (I55_6 (by omega))) | (exact fun hf_ => (I55_12 (by omega)).cst) | (exact fun hf_ => absurd hf_ (by omega)) | (split <;> omega) | (exact ⟨_, _, _, _, _, _, X73, by omega, by omega⟩) | done)), ?_⟩
        refine ⟨(by (try simp only [rk_X14_readArg, Ks55]); (all_goals (repeat' (first | with_reducible intro _ | with_reducible apply And.intro))); all_goals (first | assumption | trivial | (unfold NBP; (try simp only [Ks55]); omega) | (unfold NBQ; (try simp only [Ks55]); omega) | omega | (exact fun hf_ => (I55_6 (by omega))) | (exact fun hf_ => (I55_12 (by omega)).cst) | (exact fun hf_ => absurd hf_ (by omega)) | (split <;> omega) | (exact ⟨_, _, _, _, _, _, X73, by omega, by omega⟩) | done)), ?_⟩
        intro v83 s83 hv83 Ws83 e83_0 e83_1 e83_2 e83_3 e83_4 e83_5 e83_6 e83_7 e83_8 e83_9 q83
        unfold rng at hv83
        unfold post_X14_readArg at q83
        obtain ⟨q83_1, q83_2, q83_3, q83_4, q83_5, q83_6, q83_7, q83_8, q83_9, q83_10⟩ := q83
        (try simp only [Ks55, NBP, NBQ] at q83_1 q83_2 q83_3 q83_4 q83_5 q83_6 q83_7 q83_8 q83_9 q83_10 e83_0 e83_1 e83_2 e83_3 e83_4 e83_5 e83_6 e83_7 e83_8 e83_9)
        have Ks83 : rR s83 7 = rR σ 7 := by (try simp only [rR_sF, rR_sA, rR_sT, rR_sL] at e83_0 e83_1 e83_2 e83_3 e83_4 e83_5 e83_6 e83_7 e83_8 e83_9); omega
        have zr83 := fz_rng s83
        have A83 : Im (fz s83 = 0) (RG σ s83 (rR σ 7) x1) := fun hf => RG.trk hp_2 (I55_6 (by omega)) (q83_5 hf) (by omega)
        have F_83 : Im (fz s83 = 0) _ := fun hf => OQ.rg hp_2 (q83_5 hf) (I55_12 (by omega))
        have TPRp_83 := e83_0 TPRp_55; clear e83_0
        have CCp_83 := e83_1 CCp_55; clear e83_1
        have Q_h59 : Im (fz s83 = 0) (TS s83 (rR σ 7) 1 v83 0 ((rF σ 0 31) + 1) 1 (rF s55 (rR σ 7) 7) (rF s83 (rR σ 7) 7) 0 0 (rF s55 (rR σ 7) 32) (rF s83 (rR σ 7) 32)) := fun hf => (q83_8 hf).cst
        refine ⟨(by (try simp only [pre_X14_node_t, Ks83]); (all_goals (repeat' (first | with_reducible intro _ | with_reducible apply And.intro))); all_goals (first | assumption | trivial | (unfold NBP; (try simp only [Ks83]); omega) | (unfold NBQ; (try simp only [Ks83]); omega) | omega | (exact fun hf_ => (A83 (by omega))) | (exact fun hf_ => (F_83 (by omega)).cst) | (exact fun hf_ => (Q_h59 (by omega)).cst) | (exact fun hf_ => absurd hf_ (by omega)) | (split <;> omega) | (exact ⟨_, _, _, _, _, _, X73, by omega, by omega⟩) | done)), ?_⟩
        intro v88 s88 hv88 Ws88 e88_0 e88_1 e88_2 e88_3 e88_4 e88_5 e88_6 e88_7 e88_8 e88_9 e88_10 e88_11 e88_12 e88_13 e88_14 e88_15 e88_16 e88_17 e88_18 e88_19 e88_20 e88_21 e88_22 q88
        unfold rng at hv88
        unfold post_X14_node_t at q88
        obtain ⟨q88_1, q88_2, q88_3, q88_4, q88_5, q88_6, q88_7, q88_8, q88_9⟩ := q88
        (try simp only [Ks83, NBP, NBQ] at q88_1 q88_2 q88_3 q88_4 q88_5 q88_6 q88_7 q88_8 q88_9 e88_0 e88_1 e88_2 e88_3 e88_4 e88_5 e88_6 e88_7 e88_8 e88_9 e88_10 e88_11 e88_12 e88_13 e88_14 e88_15 e88_16 e88_17 e88_18 e88_19 e88_20 e88_21 e88_22)
        have Ks88 : rR s88 7 = rR σ 7 := by (try simp only [rR_sF, rR_sA, rR_sT, rR_sL] at e88_0 e88_1 e88_2 e88_3 e88_4 e88_5 e88_6 e88_7 e88_8 e88_9 e88_10 e88_11 e88_12 e88_13 e88_14 e88_15 e88_16 e88_17 e88_18 e88_19 e88_20 e88_21 e88_22); omega
        have zr88 := fz_rng s88
        have A88 : Im (fz s88 = 0) (RG σ s88 (rR σ 7) x1) := fun hf => RG.trk hp_2 (A83 (by omega)) q88_3 (by omega)
        have F_88 : Im (fz s88 = 0) _ := fun hf => OQ.rg hp_2 q88_3 (F_83 (by omega))
        have Q_88 : Im (fz s88 = 0) _ := fun hf => RG.tsA hp_2 q88_3 (Q_h59 (by omega))
        have rNMp_88 := e88_0 q83_2; clear e88_0
        have TPRp_88 := e88_1 TPRp_83; clear e88_1
        have WNp_88 := e88_2 q83_3; clear e88_2
        have PNp_88 := e88_3 q83_4; clear e88_3
        have CCp_88 := e88_4 CCp_83; clear e88_4
        have P_h76 : Im (fz s88 = 0) (TS s88 (rR σ 7) 6 v88 0 (rF σ 0 31) 0 (rF s55 (rR σ 7) 7) (rF s88 (rR σ 7) 7) 0 0 (rF s55 (rR σ 7) 32) (rF s88 (rR σ 7) 32)) := fun hf => (TS.giv hp_2 q88_4 q88_5 (Q_88 hf) (d := (rF σ 0 31)) (lo := (rF s55 (rR σ 7) 7)) (hi := (rF s88 (rR σ 7) 7))).cst
        have Pn_h77 : Im (fz s88 = 0) (tr s88 (rR σ 7) 5 v88 = 0) := fun hf => q88_9
        intro hr_; unfold rng at hr_
        refine ⟨fun c97 => ?_, fun c97 => ?_⟩
        · have z97 := fz_z c97
          refine ⟨fun c102 => ?_, fun c102 => ?_⟩
          · refine ⟨(by (try simp only [Ks88]); (all_goals (repeat' (first | with_reducible intro _ | with_reducible apply And.intro))); all_goals (first | assumption | trivial | (unfold NBP; (try simp only [Ks88]); omega) | (unfold NBQ; (try simp only [Ks88]); omega) | omega | (exact fun hf_ => (A88 (by omega))) | (exact fun hf_ => (F_88 (by omega)).cst) | (exact fun hf_ => (Q_88 (by omega)).cst) | (exact fun hf_ => (P_h76 (by omega)).cst) | (exact fun hf_ => Pn_h77 (by omega)) | (exact fun hf_ => absurd hf_ (by omega)) | (split <;> omega) | (exact ⟨_, _, _, _, _, _, X73, by omega, by omega⟩) | done)), ?_⟩
            have Q_129 : Im (fz s88 = 0) _ := fun hf => TS.tstA (f := 5) (i := y55_3) (z := v88) hp_2 (Q_88 hf)
            have F_h84 : Im (fz s88 = 0) (OQ (sT s88 (rR σ 7) 5 y55_3 v88) (rR σ 7) 6 2 x1 v88 (rF σ 0 31) 0 (rF σ (rR σ 7) 7) (rF σ (rR σ 7) 32) (rF s88 (rR σ 7) 7) (rF s88 (rR σ 7) 32)) := fun hf => (OQ.p1 hp_2 (F_88 (by omega)) (P_h76 (by omega)) (Pn_h77 (by omega))).cst
            refine ⟨(by (try simp only [pre_X14_blanks, reduceIte, and_true, true_and, and_false, false_and, and_self, Nat.reduceEqDiff, fz_sA, rF_sA, rA_sA, rR_sA, rF_sT, rR_sT, sT_sF, fz_sT, rA_sT26 hp_2, rA_sT27 hp_2, rA_sT34 hp_2, rA_sT35 hp_2, rA_sT36 hp_2, rA_sT37 hp_2, rA_sT40 hp_2, TPRp_sT hp_2, WNp_sT hp_2, VMp_sT hp_2, KYp_sT hp_2, PPp_sT hp_2, WFp_sT hp_2, CCp_sT hp_2, rNMp_sT5, PNp_sT5, rk_n0 hp_2, Ks88]); (all_goals (repeat' (first | with_reducible intro _ | with_reducible apply And.intro))); all_goals (first | assumption | trivial | (unfold NBP; (try simp only [reduceIte, and_true, true_and, and_false, false_and, and_self, Nat.reduceEqDiff, fz_sA, rF_sA, rA_sA, rR_sA, rF_sT, rR_sT, sT_sF, fz_sT, rA_sT26 hp_2, rA_sT27 hp_2, rA_sT34 hp_2, rA_sT35 hp_2, rA_sT36 hp_2, rA_sT37 hp_2, rA_sT40 hp_2, TPRp_sT hp_2, WNp_sT hp_2, VMp_sT hp_2, KYp_sT hp_2, PPp_sT hp_2, WFp_sT hp_2, CCp_sT hp_2, rNMp_sT5, PNp_sT5, rk_n0 hp_2, Ks88]); omega) | (unfold NBQ; (try simp only [reduceIte, and_true, true_and, and_false, false_and, and_self, Nat.reduceEqDiff, fz_sA, rF_sA, rA_sA, rR_sA, rF_sT, rR_sT, sT_sF, fz_sT, rA_sT26 hp_2, rA_sT27 hp_2, rA_sT34 hp_2, rA_sT35 hp_2, rA_sT36 hp_2, rA_sT37 hp_2, rA_sT40 hp_2, TPRp_sT hp_2, WNp_sT hp_2, VMp_sT hp_2, KYp_sT hp_2, PPp_sT hp_2, WFp_sT hp_2, CCp_sT hp_2, rNMp_sT5, PNp_sT5, rk_n0 hp_2, Ks88]); omega) | omega | (exact fun hf_ => (RG.tst hp_2 (A88 (by omega)) (by decide) (by omega))) | (exact fun hf_ => (F_h84 (by omega)).cst) | (exact fun hf_ => (Q_129 (by omega)).cst) | (exact fun hf_ => absurd hf_ (by omega)) | (split <;> omega) | (exact ⟨_, _, _, _, _, _, X73, by omega, by omega⟩) | done)), ?_⟩
            intro s134 Ws134 e134_0 e134_1 e134_2 e134_3 e134_4 e134_5 e134_6 e134_7 e134_8 e134_9 e134_10 e134_11 e134_12 e134_13 e134_14 e134_15 e134_16 e134_17 e134_18 e134_19 e134_20 e134_21 e134_22 R134 q134
            have q134 := dig_blanks q134 (by (try simp only [reduceIte, and_true, true_and, and_false, false_and, and_self, Nat.reduceEqDiff, fz_sA, rF_sA, rA_sA, rR_sA, rF_sT, rR_sT, sT_sF, fz_sT, rA_sT26 hp_2, rA_sT27 hp_2, rA_sT34 hp_2, rA_sT35 hp_2, rA_sT36 hp_2, rA_sT37 hp_2, rA_sT40 hp_2, TPRp_sT hp_2, WNp_sT hp_2, VMp_sT hp_2, KYp_sT hp_2, PPp_sT hp_2, WFp_sT hp_2, CCp_sT hp_2, rNMp_sT5, PNp_sT5, rk_n0 hp_2, Ks88]); omega)
            obtain ⟨q134_1, q134_2⟩ := q134
            (try simp only [reduceIte, and_true, true_and, and_false, false_and, and_self, Nat.reduceEqDiff, fz_sA, rF_sA, rA_sA, rR_sA, rF_sT, rR_sT, sT_sF, fz_sT, rA_sT26 hp_2, rA_sT27 hp_2, rA_sT34 hp_2, rA_sT35 hp_2, rA_sT36 hp_2, rA_sT37 hp_2, rA_sT40 hp_2, TPRp_sT hp_2, WNp_sT hp_2, VMp_sT hp_2, KYp_sT hp_2, PPp_sT hp_2, WFp_sT hp_2, CCp_sT hp_2, rNMp_sT5, PNp_sT5, rk_n0 hp_2, Ks88, NBP, NBQ] at q134_1 q134_2 e134_0 e134_1 e134_2 e134_3 e134_4 e134_5 e134_6 e134_7 e134_8 e134_9 e134_10 e134_11 e134_12 e134_13 e134_14 e134_15 e134_16 e134_17 e134_18 e134_19 e134_20 e134_21 e134_22 R134)
            have Ks134 : rR s134 7 = rR σ 7 := by (try simp only [rR_sF, rR_sA, rR_sT, rR_sL] at e134_0 e134_1 e134_2 e134_3 e134_4 e134_5 e134_6 e134_7 e134_8 e134_9 e134_10 e134_11 e134_12 e134_13 e134_14 e134_15 e134_16 e134_17 e134_18 e134_19 e134_20 e134_21 e134_22 R134); omega
            have zr134 := fz_rng s134
            have A134 : Im (fz s134 = 0) (RG σ s134 (rR σ 7) x1) := fun hf => RG.trk hp_2 (RG.tst hp_2 (A88 (by omega)) (by decide) (by omega)) R134 (by omega)
            have F_134 : Im (fz s134 = 0) _ := fun hf => OQ.rg hp_2 R134 (F_h84 (by omega))
            have Q_134 : Im (fz s134 = 0) _ := fun hf => RG.tsA hp_2 R134 (Q_129 (by omega))
            have rNMp_134 := e134_0 rNMp_88; clear e134_0
            have TPRp_134 := e134_1 TPRp_88; clear e134_1
            have WNp_134 := e134_2 WNp_88; clear e134_2
            have PNp_134 := e134_3 PNp_88; clear e134_3
            have CCp_134 := e134_4 CCp_88; clear e134_4
            refine ⟨(by (try simp only [pre_X14_here, Ks134]); (all_goals (repeat' (first | with_reducible intro _ | with_reducible apply And.intro))); all_goals (first | assumption | trivial | (unfold NBP; (try simp only [Ks134]); omega) | (unfold NBQ; (try simp only [Ks134]); omega) | omega | (exact fun hf_ => (A134 (by omega))) | (exact fun hf_ => (F_134 (by omega)).cst) | (exact fun hf_ => (Q_134 (by omega)).cst) | (exact fun hf_ => absurd hf_ (by omega)) | (split <;> omega) | (exact ⟨_, _, _, _, _, _, X73, by omega, by omega⟩) | done)), ?_⟩
            intro v138 hv138 q138
            unfold rng at hv138
            unfold post_X14_here at q138
            obtain ⟨q138_1, q138_2⟩ := q138
            (try simp only [Ks134, NBP, NBQ] at q138_1 q138_2)
            refine ⟨fun c143 => ?_, fun c143 => ?_⟩
            · exact (by (try simp only [inv_X14_readArgs_55, mu_X14_readArgs_55, mu_X14_readArgs_55, Ks134]); (all_goals (repeat' (first | with_reducible intro _ | with_reducible apply And.intro))); all_goals (first | assumption | trivial | (unfold NBP; (try simp only [Ks134]); omega) | (unfold NBQ; (try simp only [Ks134]); omega) | omega | (exact fun hf_ => (A134 (by omega))) | (exact fun hf_ => (F_134 (by omega)).cst) | (exact fun hf_ => (Q_134 (by omega)).cst) | (exact fun hf_ => absurd hf_ (by omega)) | (split <;> omega) | (exact ⟨_, _, _, _, _, _, X73, by omega, by omega⟩) | done))
            · intro hr_; unfold rng at hr_
              refine ⟨(by (try simp only [rng, Ks134]); (all_goals (repeat' (first | with_reducible intro _ | with_reducible apply And.intro))); all_goals (first | assumption | trivial | (unfold NBP; (try simp only [Ks134]); omega) | (unfold NBQ; (try simp only [Ks134]); omega) | omega | (exact fun hf_ => (A134 (by omega))) | (exact fun hf_ => (F_134 (by omega)).cst) | (exact fun hf_ => (Q_134 (by omega)).cst) | (exact fun hf_ => absurd hf_ (by omega)) | (split <;> omega) | (exact ⟨_, _, _, _, _, _, X73, by omega, by omega⟩) | done)), ?_⟩
              refine ⟨(by (try simp only [pre_X14_blanks, reduceIte, and_true, true_and, and_false, false_and, and_self, Nat.reduceEqDiff, fz_sF29, rF_sF, rA_sF, rR_sF, tr_sF, TS_sF, LQ_sF, MI_sF, IG_sF, HQ_sF, OQ_sF, rNMp_sF, PNp_sF, RG_l29, RG_r29, TPRp_sF29, WNp_sF29, VMp_sF29, KYp_sF29, PPp_sF29, WFp_sF29, CCp_sF29, rk_n0 hp_2, Ks134]); (all_goals (repeat' (first | with_reducible intro _ | with_reducible apply And.intro))); all_goals (first | assumption | trivial | (unfold NBP; (try simp only [reduceIte, and_true, true_and, and_false, false_and, and_self, Nat.reduceEqDiff, fz_sF29, rF_sF, rA_sF, rR_sF, tr_sF, TS_sF, LQ_sF, MI_sF, IG_sF, HQ_sF, OQ_sF, rNMp_sF, PNp_sF, RG_l29, RG_r29, TPRp_sF29, WNp_sF29, VMp_sF29, KYp_sF29, PPp_sF29, WFp_sF29, CCp_sF29, rk_n0 hp_2, Ks134]); omega) | (unfold NBQ; (try simp only [reduceIte, and_true, true_and, and_false, false_and, and_self, Nat.reduceEqDiff, fz_sF29, rF_sF, rA_sF, rR_sF, tr_sF, TS_sF, LQ_sF, MI_sF, IG_sF, HQ_sF, OQ_sF, rNMp_sF, PNp_sF, RG_l29, RG_r29, TPRp_sF29, WNp_sF29, VMp_sF29, KYp_sF29, PPp_sF29, WFp_sF29, CCp_sF29, rk_n0 hp_2, Ks134]); omega) | omega | (exact fun hf_ => (A134 (by omega))) | (exact fun hf_ => (F_134 (by omega)).cst) | (exact fun hf_ => (Q_134 (by omega)).cst) | (exact fun hf_ => absurd hf_ (by omega)) | (split <;> omega) | (exact ⟨_, _, _, _, _, _, X73, by omega, by omega⟩) | done)), ?_⟩
              intro s169 Ws169 e169_0 e169_1 e169_2 e169_3 e169_4 e169_5 e169_6 e169_7 e169_8 e169_9 e169_10 e169_11 e169_12 e169_13 e169_14 e169_15 e169_16 e169_17 e169_18 e169_19 e169_20 e169_21 e169_22 R169 q169
              have q169 := dig_blanks q169 (by (try simp only [reduceIte, and_true, true_and, and_false, false_and, and_self, Nat.reduceEqDiff, fz_sF29, rF_sF, rA_sF, rR_sF, tr_sF, TS_sF, LQ_sF, MI_sF, IG_sF, HQ_sF, OQ_sF, rNMp_sF, PNp_sF, RG_l29, RG_r29, TPRp_sF29, WNp_sF29, VMp_sF29, KYp_sF29, PPp_sF29, WFp_sF29, CCp_sF29, rk_n0 hp_2, Ks134]); omega)
              obtain ⟨q169_1, q169_2⟩ := q169
              (try simp only [reduceIte, and_true, true_and, and_false, false_and, and_self, Nat.reduceEqDiff, fz_sF29, rF_sF, rA_sF, rR_sF, tr_sF, TS_sF, LQ_sF, MI_sF, IG_sF, HQ_sF, OQ_sF, rNMp_sF, PNp_sF, RG_l29, RG_r29, TPRp_sF29, WNp_sF29, VMp_sF29, KYp_sF29, PPp_sF29, WFp_sF29, CCp_sF29, rk_n0 hp_2, Ks134, NBP, NBQ] at q169_1 q169_2 e169_0 e169_1 e169_2 e169_3 e169_4 e169_5 e169_6 e169_7 e169_8 e169_9 e169_10 e169_11 e169_12 e169_13 e169_14 e169_15 e169_16 e169_17 e169_18 e169_19 e169_20 e169_21 e169_22 R169)
              have Ks169 : rR s169 7 = rR σ 7 := by (try simp only [rR_sF, rR_sA, rR_sT, rR_sL] at e169_0 e169_1 e169_2 e169_3 e169_4 e169_5 e169_6 e169_7 e169_8 e169_9 e169_10 e169_11 e169_12 e169_13 e169_14 e169_15 e169_16 e169_17 e169_18 e169_19 e169_20 e169_21 e169_22 R169); omega
              have zr169 := fz_rng s169
              have A169 : Im (fz s169 = 0) (RG σ s169 (rR σ 7) x1) := fun hf => RG.trk hp_2 (A134 (by omega)) R169 (by omega)
              have F_169 : Im (fz s169 = 0) _ := fun hf => OQ.rg hp_2 R169 (F_134 (by omega))
              have Q_169 : Im (fz s169 = 0) _ := fun hf => RG.tsA hp_2 R169 (Q_134 (by omega))
              have rNMp_169 := e169_0 rNMp_134; clear e169_0
              have TPRp_169 := e169_1 TPRp_134; clear e169_1
              have WNp_169 := e169_2 WNp_134; clear e169_2
              have PNp_169 := e169_3 PNp_134; clear e169_3
              have CCp_169 := e169_4 CCp_134; clear e169_4
              refine ⟨fun c173 => ?_, fun c173 => ?_⟩
              · exact (by (try simp only [inv_X14_readArgs_55, mu_X14_readArgs_55, mu_X14_readArgs_55, Ks169]); (all_goals (repeat' (first | with_reducible intro _ | with_reducible apply And.intro))); all_goals (first | assumption | trivial | (unfold NBP; (try simp only [Ks169]); omega) | (unfold NBQ; (try simp only [Ks169]); omega) | omega | (exact fun hf_ => (A169 (by omega))) | (exact fun hf_ => (F_169 (by omega)).cst) | (exact fun hf_ => (Q_169 (by omega)).cst) | (exact fun hf_ => absurd hf_ (by omega)) | (split <;> omega) | (exact ⟨_, _, _, _, _, _, X73, by omega, by omega⟩) | done))
              · refine ⟨(by (try simp only [pre_X14_isDots, Ks169]); (all_goals (repeat' (first | with_reducible intro _ | with_reducible apply And.intro))); all_goals (first | assumption | trivial | (unfold NBP; (try simp only [Ks169]); omega) | (unfold NBQ; (try simp only [Ks169]); omega) | omega | (exact fun hf_ => (A169 (by omega))) | (exact fun hf_ => (F_169 (by omega)).cst) | (exact fun hf_ => (Q_169 (by omega)).cst) | (exact fun hf_ => absurd hf_ (by omega)) | (split <;> omega) | (exact ⟨_, _, _, _, _, _, X73, by omega, by omega⟩) | done)), ?_⟩
                intro v177 hv177 q177
                unfold rng at hv177
                unfold post_X14_isDots at q177
                obtain ⟨q177_1, q177_2⟩ := q177
                (try simp only [Ks169, NBP, NBQ] at q177_1 q177_2)
                refine ⟨fun c180 => ?_, fun c180 => ?_⟩
                · exact (by (try simp only [inv_X14_readArgs_55, mu_X14_readArgs_55, mu_X14_readArgs_55, Ks169]); (all_goals (repeat' (first | with_reducible intro _ | with_reducible apply And.intro))); all_goals (first | assumption | trivial | (unfold NBP; (try simp only [Ks169]); omega) | (unfold NBQ; (try simp only [Ks169]); omega) | omega | (exact fun hf_ => (A169 (by omega))) | (exact fun hf_ => (F_169 (by omega)).cst) | (exact fun hf_ => (Q_169 (by omega)).cst) | (exact fun hf_ => absurd hf_ (by omega)) | (split <;> omega) | (exact ⟨_, _, _, _, _, _, X73, by omega, by omega⟩) | done))
                · refine ⟨(by (try simp only [pre_X14_dots_t, Ks169]); (all_goals (repeat' (first | with_reducible intro _ | with_reducible apply And.intro))); all_goals (first | assumption | trivial | (unfold NBP; (try simp only [Ks169]); omega) | (unfold NBQ; (try simp only [Ks169]); omega) | omega | (exact fun hf_ => (A169 (by omega))) | (exact fun hf_ => (F_169 (by omega)).cst) | (exact fun hf_ => (Q_169 (by omega)).cst) | (exact fun hf_ => absurd hf_ (by omega)) | (split <;> omega) | (exact ⟨_, _, _, _, _, _, X73, by omega, by omega⟩) | done)), ?_⟩
                  intro s185 Ws185 e185_0 e185_1 e185_2 e185_3 e185_4 e185_5 e185_6 e185_7 e185_8 e185_9 e185_10 e185_11 e185_12 e185_13 e185_14 e185_15 e185_16 e185_17 e185_18 e185_19 e185_20 q185
                  unfold post_X14_dots_t at q185
                  obtain ⟨q185_1, q185_2, q185_3, q185_4, q185_5, q185_6⟩ := q185
                  (try simp only [Ks169, NBP, NBQ] at q185_1 q185_2 q185_3 q185_4 q185_5 q185_6 e185_0 e185_1 e185_2 e185_3 e185_4 e185_5 e185_6 e185_7 e185_8 e185_9 e185_10 e185_11 e185_12 e185_13 e185_14 e185_15 e185_16 e185_17 e185_18 e185_19 e185_20)
                  have Ks185 : rR s185 7 = rR σ 7 := by (try simp only [rR_sF, rR_sA, rR_sT, rR_sL] at e185_0 e185_1 e185_2 e185_3 e185_4 e185_5 e185_6 e185_7 e185_8 e185_9 e185_10 e185_11 e185_12 e185_13 e185_14 e185_15 e185_16 e185_17 e185_18 e185_19 e185_20); omega
                  have zr185 := fz_rng s185
                  have A185 : Im (fz s185 = 0) (RG σ s185 (rR σ 7) x1) := fun hf => RG.trk hp_2 (A169 (by omega)) (q185_4 hf) (by omega)
                  have Q_185 : Im (fz s185 = 0) _ := fun hf => RG.tsA hp_2 (q185_4 hf) (Q_169 (by omega))
                  have rNMp_185 := e185_0 rNMp_169; clear e185_0
                  have TPRp_185 := e185_1 TPRp_169; clear e185_1
                  have WNp_185 := e185_2 WNp_169; clear e185_2
                  have PNp_185 := e185_3 PNp_169; clear e185_3
                  have CCp_185 := e185_4 CCp_169; clear e185_4
                  have T_h149 : Im (fz s185 = 0) (TS s185 (rR σ 7) 106 (tr s185 (rR σ 7) 2 x1) 0 (rF σ 0 31) 0 (rF σ (rR σ 7) 7) (rF s185 (rR σ 7) 7) 0 0 (rF σ (rR σ 7) 32) (rF s185 (rR σ 7) 32)) := fun hf => by rw [q185_6 hf]; exact (RG.tsA hp_2 (q185_4 hf) (OQ.done (F_169 (by omega)))).cst
                  exact (by (try simp only [post_X14_readArgs, Ks185]); (all_goals (repeat' (first | with_reducible intro _ | with_reducible apply And.intro))); all_goals (first | assumption | trivial | (unfold NBP; (try simp only [Ks185]); omega) | (unfold NBQ; (try simp only [Ks185]); omega) | omega | (exact fun hf_ => (A185 (by omega))) | (exact fun hf_ => (Q_185 (by omega)).cst) | (exact fun hf_ => (T_h149 (by omega)).cst) | (exact fun hf_ => absurd hf_ (by omega)) | (split <;> omega) | (exact ⟨_, _, _, _, _, _, X73, by omega, by omega⟩) | done))
          · refine ⟨(by (try simp only [Ks88]); (all_goals (repeat' (first | with_reducible intro _ | with_reducible apply And.intro))); all_goals (first | assumption | trivial | (unfold NBP; (try simp only [Ks88]); omega) | (unfold NBQ; (try simp only [Ks88]); omega) | omega | (exact fun hf_ => (A88 (by omega))) | (exact fun hf_ => (F_88 (by omega)).cst) | (exact fun hf_ => (Q_88 (by omega)).cst) | (exact fun hf_ => (P_h76 (by omega)).cst) | (exact fun hf_ => Pn_h77 (by omega)) | (exact fun hf_ => absurd hf_ (by omega)) | (split <;> omega) | (exact ⟨_, _, _, _, _, _, X73, by omega, by omega⟩) | done)), ?_⟩
            have Q_115 : Im (fz s88 = 0) _ := fun hf => TS.tstA (f := 2) (i := x1) (z := v88) hp_2 (Q_88 hf)
            have F_h153 : Im (fz s88 = 0) (OQ (sT s88 (rR σ 7) 2 x1 v88) (rR σ 7) 6 2 x1 v88 (rF σ 0 31) 0 (rF σ (rR σ 7) 7) (rF σ (rR σ 7) 32) (rF s88 (rR σ 7) 7) (rF s88 (rR σ 7) 32)) := fun hf => (OQ.p0 hp_2 (F_88 (by omega)) (P_h76 (by omega)) (Pn_h77 (by omega))).cst
            refine ⟨(by (try simp only [pre_X14_blanks, reduceIte, and_true, true_and, and_false, false_and, and_self, Nat.reduceEqDiff, fz_sA, rF_sA, rA_sA, rR_sA, rF_sT, rR_sT, sT_sF, fz_sT, rA_sT26 hp_2, rA_sT27 hp_2, rA_sT34 hp_2, rA_sT35 hp_2, rA_sT36 hp_2, rA_sT37 hp_2, rA_sT40 hp_2, TPRp_sT hp_2, WNp_sT hp_2, VMp_sT hp_2, KYp_sT hp_2, PPp_sT hp_2, WFp_sT hp_2, CCp_sT hp_2, rNMp_sT2, PNp_sT2, rk_n0 hp_2, Ks88]); (all_goals (repeat' (first | with_reducible intro _ | with_reducible apply And.intro))); all_goals (first | assumption | trivial | (unfold NBP; (try simp only [reduceIte, and_true, true_and, and_false, false_and, and_self, Nat.reduceEqDiff, fz_sA, rF_sA, rA_sA, rR_sA, rF_sT, rR_sT, sT_sF, fz_sT, rA_sT26 hp_2, rA_sT27 hp_2, rA_sT34 hp_2, rA_sT35 hp_2, rA_sT36 hp_2, rA_sT37 hp_2, rA_sT40 hp_2, TPRp_sT hp_2, WNp_sT hp_2, VMp_sT hp_2, KYp_sT hp_2, PPp_sT hp_2, WFp_sT hp_2, CCp_sT hp_2, rNMp_sT2, PNp_sT2, rk_n0 hp_2, Ks88]); omega) | (unfold NBQ; (try simp only [reduceIte, and_true, true_and, and_false, false_and, and_self, Nat.reduceEqDiff, fz_sA, rF_sA, rA_sA, rR_sA, rF_sT, rR_sT, sT_sF, fz_sT, rA_sT26 hp_2, rA_sT27 hp_2, rA_sT34 hp_2, rA_sT35 hp_2, rA_sT36 hp_2, rA_sT37 hp_2, rA_sT40 hp_2, TPRp_sT hp_2, WNp_sT hp_2, VMp_sT hp_2, KYp_sT hp_2, PPp_sT hp_2, WFp_sT hp_2, CCp_sT hp_2, rNMp_sT2, PNp_sT2, rk_n0 hp_2, Ks88]); omega) | omega | (exact fun hf_ => (RG.tst hp_2 (A88 (by omega)) (by decide) (by omega))) | (exact fun hf_ => (F_h153 (by omega)).cst) | (exact fun hf_ => (Q_115 (by omega)).cst) | (exact fun hf_ => absurd hf_ (by omega)) | (split <;> omega) | (exact ⟨_, _, _, _, _, _, X73, by omega, by omega⟩) | done)), ?_⟩
            intro s134 Ws134 e134_0 e134_1 e134_2 e134_3 e134_4 e134_5 e134_6 e134_7 e134_8 e134_9 e134_10 e134_11 e134_12 e134_13 e134_14 e134_15 e134_16 e134_17 e134_18 e134_19 e134_20 e134_21 e134_22 R134 q134
            have q134 := dig_blanks q134 (by (try simp only [reduceIte, and_true, true_and, and_false, false_and, and_self, Nat.reduceEqDiff, fz_sA, rF_sA, rA_sA, rR_sA, rF_sT, rR_sT, sT_sF, fz_sT, rA_sT26 hp_2, rA_sT27 hp_2, rA_sT34 hp_2, rA_sT35 hp_2, rA_sT36 hp_2, rA_sT37 hp_2, rA_sT40 hp_2, TPRp_sT hp_2, WNp_sT hp_2, VMp_sT hp_2, KYp_sT hp_2, PPp_sT hp_2, WFp_sT hp_2, CCp_sT hp_2, rNMp_sT2, PNp_sT2, rk_n0 hp_2, Ks88]); omega)
            obtain ⟨q134_1, q134_2⟩ := q134
            (try simp only [reduceIte, and_true, true_and, and_false, false_and, and_self, Nat.reduceEqDiff, fz_sA, rF_sA, rA_sA, rR_sA, rF_sT, rR_sT, sT_sF, fz_sT, rA_sT26 hp_2, rA_sT27 hp_2, rA_sT34 hp_2, rA_sT35 hp_2, rA_sT36 hp_2, rA_sT37 hp_2, rA_sT40 hp_2, TPRp_sT hp_2, WNp_sT hp_2, VMp_sT hp_2, KYp_sT hp_2, PPp_sT hp_2, WFp_sT hp_2, CCp_sT hp_2, rNMp_sT2, PNp_sT2, rk_n0 hp_2, Ks88, NBP, NBQ] at q134_1 q134_2 e134_0 e134_1 e134_2 e134_3 e134_4 e134_5 e134_6 e134_7 e134_8 e134_9 e134_10 e134_11 e134_12 e134_13 e134_14 e134_15 e134_16 e134_17 e134_18 e134_19 e134_20 e134_21 e134_22 R134)
            have Ks134 : rR s134 7 = rR σ 7 := by (try simp only [rR_sF, rR_sA, rR_sT, rR_sL] at e134_0 e134_1 e134_2 e134_3 e134_4 e134_5 e134_6 e134_7 e134_8 e134_9 e134_10 e134_11 e134_12 e134_13 e134_14 e134_15 e134_16 e134_17 e134_18 e134_19 e134_20 e134_21 e134_22 R134); omega
            have zr134 := fz_rng s134
            have A134 : Im (fz s134 = 0) (RG σ s134 (rR σ 7) x1) := fun hf => RG.trk hp_2 (RG.tst hp_2 (A88 (by omega)) (by decide) (by omega)) R134 (by omega)
            have F_134 : Im (fz s134 = 0) _ := fun hf => OQ.rg hp_2 R134 (F_h153 (by omega))
            have Q_134 : Im (fz s134 = 0) _ := fun hf => RG.tsA hp_2 R134 (Q_115 (by omega))
            have rNMp_134 := e134_0 rNMp_88; clear e134_0
            have TPRp_134 := e134_1 TPRp_88; clear e134_1
            have WNp_134 := e134_2 WNp_88; clear e134_2
            have PNp_134 := e134_3 PNp_88; clear e134_3
            have CCp_134 := e134_4 CCp_88; clear e134_4
            refine ⟨(by (try simp only [pre_X14_here, Ks134]); (all_goals (repeat' (first | with_reducible intro _ | with_reducible apply And.intro))); all_goals (first | assumption | trivial | (unfold NBP; (try simp only [Ks134]); omega) | (unfold NBQ; (try simp only [Ks134]); omega) | omega | (exact fun hf_ => (A134 (by omega))) | (exact fun hf_ => (F_134 (by omega)).cst) | (exact fun hf_ => (Q_134 (by omega)).cst) | (exact fun hf_ => absurd hf_ (by omega)) | (split <;> omega) | (exact ⟨_, _, _, _, _, _, X73, by omega, by omega⟩) | done)), ?_⟩
            intro v138 hv138 q138
            unfold rng at hv138
            unfold post_X14_here at q138
            obtain ⟨q138_1, q138_2⟩ := q138
            (try simp only [Ks134, NBP, NBQ] at q138_1 q138_2)
            refine ⟨fun c143 => ?_, fun c143 => ?_⟩
            · exact (by (try simp only [inv_X14_readArgs_55, mu_X14_readArgs_55, mu_X14_readArgs_55, Ks134]); (all_goals (repeat' (first | with_reducible intro _ | with_reducible apply And.intro))); all_goals (first | assumption | trivial | (unfold NBP; (try simp only [Ks134]); omega) | (unfold NBQ; (try simp only [Ks134]); omega) | omega | (exact fun hf_ => (A134 (by omega))) | (exact fun hf_ => (F_134 (by omega)).cst) | (exact fun hf_ => (Q_134 (by omega)).cst) | (exact fun hf_ => absurd hf_ (by omega)) | (split <;> omega) | (exact ⟨_, _, _, _, _, _, X73, by omega, by omega⟩) | done))
            · intro hr_; unfold rng at hr_
              refine ⟨(by (try simp only [rng, Ks134]); (all_goals (repeat' (first | with_reducible intro _ | with_reducible apply And.intro))); all_goals (first | assumption | trivial | (unfold NBP; (try simp only [Ks134]); omega) | (unfold NBQ; (try simp only [Ks134]); omega) | omega | (exact fun hf_ => (A134 (by omega))) | (exact fun hf_ => (F_134 (by omega)).cst) | (exact fun hf_ => (Q_134 (by omega)).cst) | (exact fun hf_ => absurd hf_ (by omega)) | (split <;> omega) | (exact ⟨_, _, _, _, _, _, X73, by omega, by omega⟩) | done)), ?_⟩
              refine ⟨(by (try simp only [pre_X14_blanks, reduceIte, and_true, true_and, and_false, false_and, and_self, Nat.reduceEqDiff, fz_sF29, rF_sF, rA_sF, rR_sF, tr_sF, TS_sF, LQ_sF, MI_sF, IG_sF, HQ_sF, OQ_sF, rNMp_sF, PNp_sF, RG_l29, RG_r29, TPRp_sF29, WNp_sF29, VMp_sF29, KYp_sF29, PPp_sF29, WFp_sF29, CCp_sF29, rk_n0 hp_2, Ks134]); (all_goals (repeat' (first | with_reducible intro _ | with_reducible apply And.intro))); all_goals (first | assumption | trivial | (unfold NBP; (try simp only [reduceIte, and_true, true_and, and_false, false_and, and_self, Nat.reduceEqDiff, fz_sF29, rF_sF, rA_sF, rR_sF, tr_sF, TS_sF, LQ_sF, MI_sF, IG_sF, HQ_sF, OQ_sF, rNMp_sF, PNp_sF, RG_l29, RG_r29, TPRp_sF29, WNp_sF29, VMp_sF29, KYp_sF29, PPp_sF29, WFp_sF29, CCp_sF29, rk_n0 hp_2, Ks134]); omega) | (unfold NBQ; (try simp only [reduceIte, and_true, true_and, and_false, false_and, and_self, Nat.reduceEqDiff, fz_sF29, rF_sF, rA_sF, rR_sF, tr_sF, TS_sF, LQ_sF, MI_sF, IG_sF, HQ_sF, OQ_sF, rNMp_sF, PNp_sF, RG_l29, RG_r29, TPRp_sF29, WNp_sF29, VMp_sF29, KYp_sF29, PPp_sF29, WFp_sF29, CCp_sF29, rk_n0 hp_2, Ks134]); omega) | omega | (exact fun hf_ => (A134 (by omega))) | (exact fun hf_ => (F_134 (by omega)).cst) | (exact fun hf_ => (Q_134 (by omega)).cst) | (exact fun hf_ => absurd hf_ (by omega)) | (split <;> omega) | (exact ⟨_, _, _, _, _, _, X73, by omega, by omega⟩) | done)), ?_⟩
              intro s169 Ws169 e169_0 e169_1 e169_2 e169_3 e169_4 e169_5 e169_6 e169_7 e169_8 e169_9 e169_10 e169_11 e169_12 e169_13 e169_14 e169_15 e169_16 e169_17 e169_18 e169_19 e169_20 e169_21 e169_22 R169 q169
              have q169 := dig_blanks q169 (by (try simp only [reduceIte, and_true, true_and, and_false, false_and, and_self, Nat.reduceEqDiff, fz_sF29, rF_sF, rA_sF, rR_sF, tr_sF, TS_sF, LQ_sF, MI_sF, IG_sF, HQ_sF, OQ_sF, rNMp_sF, PNp_sF, RG_l29, RG_r29, TPRp_sF29, WNp_sF29, VMp_sF29, KYp_sF29, PPp_sF29, WFp_sF29, CCp_sF29, rk_n0 hp_2, Ks134]); omega)
              obtain ⟨q169_1, q169_2⟩ := q169
              (try simp only [reduceIte, and_true, true_and, and_false, false_and, and_self, Nat.reduceEqDiff, fz_sF29, rF_sF, rA_sF, rR_sF, tr_sF, TS_sF, LQ_sF, MI_sF, IG_sF, HQ_sF, OQ_sF, rNMp_sF, PNp_sF, RG_l29, RG_r29, TPRp_sF29, WNp_sF29, VMp_sF29, KYp_sF29, PPp_sF29, WFp_sF29, CCp_sF29, rk_n0 hp_2, Ks134, NBP, NBQ] at q169_1 q169_2 e169_0 e169_1 e169_2 e169_3 e169_4 e169_5 e169_6 e169_7 e169_8 e169_9 e169_10 e169_11 e169_12 e169_13 e169_14 e169_15 e169_16 e169_17 e169_18 e169_19 e169_20 e169_21 e169_22 R169)
              have Ks169 : rR s169 7 = rR σ 7 := by (try simp only [rR_sF, rR_sA, rR_sT, rR_sL] at e169_0 e169_1 e169_2 e169_3 e169_4 e169_5 e169_6 e169_7 e169_8 e169_9 e169_10 e169_11 e169_12 e169_13 e169_14 e169_15 e169_16 e169_17 e169_18 e169_19 e169_20 e169_21 e169_22 R169); omega
              have zr169 := fz_rng s169
              have A169 : Im (fz s169 = 0) (RG σ s169 (rR σ 7) x1) := fun hf => RG.trk hp_2 (A134 (by omega)) R169 (by omega)
              have F_169 : Im (fz s169 = 0) _ := fun hf => OQ.rg hp_2 R169 (F_134 (by omega))
              have Q_169 : Im (fz s169 = 0) _ := fun hf => RG.tsA hp_2 R169 (Q_134 (by omega))
              have rNMp_169 := e169_0 rNMp_134; clear e169_0
              have TPRp_169 := e169_1 TPRp_134; clear e169_1
              have WNp_169 := e169_2 WNp_134; clear e169_2
              have PNp_169 := e169_3 PNp_134; clear e169_3
              have CCp_169 := e169_4 CCp_134; clear e169_4
              refine ⟨fun c173 => ?_, fun c173 => ?_⟩
              · exact (by (try simp only [inv_X14_readArgs_55, mu_X14_readArgs_55, mu_X14_readArgs_55, Ks169]); (all_goals (repeat' (first | with_reducible intro _ | with_reducible apply And.intro))); all_goals (first | assumption | trivial | (unfold NBP; (try simp only [Ks169]); omega) | (unfold NBQ; (try simp only [Ks169]); omega) | omega | (exact fun hf_ => (A169 (by omega))) | (exact fun hf_ => (F_169 (by omega)).cst) | (exact fun hf_ => (Q_169 (by omega)).cst) | (exact fun hf_ => absurd hf_ (by omega)) | (split <;> omega) | (exact ⟨_, _, _, _, _, _, X73, by omega, by omega⟩) | done))
              · refine ⟨(by (try simp only [pre_X14_isDots, Ks169]); (all_goals (repeat' (first | with_reducible intro _ | with_reducible apply And.intro))); all_goals (first | assumption | trivial | (unfold NBP; (try simp only [Ks169]); omega) | (unfold NBQ; (try simp only [Ks169]); omega) | omega | (exact fun hf_ => (A169 (by omega))) | (exact fun hf_ => (F_169 (by omega)).cst) | (exact fun hf_ => (Q_169 (by omega)).cst) | (exact fun hf_ => absurd hf_ (by omega)) | (split <;> omega) | (exact ⟨_, _, _, _, _, _, X73, by omega, by omega⟩) | done)), ?_⟩
                intro v177 hv177 q177
                unfold rng at hv177
                unfold post_X14_isDots at q177
                obtain ⟨q177_1, q177_2⟩ := q177
                (try simp only [Ks169, NBP, NBQ] at q177_1 q177_2)
                refine ⟨fun c180 => ?_, fun c180 => ?_⟩
                · exact (by (try simp only [inv_X14_readArgs_55, mu_X14_readArgs_55, mu_X14_readArgs_55, Ks169]); (all_goals (repeat' (first | with_reducible intro _ | with_reducible apply And.intro))); all_goals (first | assumption | trivial | (unfold NBP; (try simp only [Ks169]); omega) | (unfold NBQ; (try simp only [Ks169]); omega) | omega | (exact fun hf_ => (A169 (by omega))) | (exact fun hf_ => (F_169 (by omega)).cst) | (exact fun hf_ => (Q_169 (by omega)).cst) | (exact fun hf_ => absurd hf_ (by omega)) | (split <;> omega) | (exact ⟨_, _, _, _, _, _, X73, by omega, by omega⟩) | done))
                · refine ⟨(by (try simp only [pre_X14_dots_t, Ks169]); (all_goals (repeat' (first | with_reducible intro _ | with_reducible apply And.intro))); all_goals (first | assumption | trivial | (unfold NBP; (try simp only [Ks169]); omega) | (unfold NBQ; (try simp only [Ks169]); omega) | omega | (exact fun hf_ => (A169 (by omega))) | (exact fun hf_ => (F_169 (by omega)).cst) | (exact fun hf_ => (Q_169 (by omega)).cst) | (exact fun hf_ => absurd hf_ (by omega)) | (split <;> omega) | (exact ⟨_, _, _, _, _, _, X73, by omega, by omega⟩) | done)), ?_⟩
                  intro s185 Ws185 e185_0 e185_1 e185_2 e185_3 e185_4 e185_5 e185_6 e185_7 e185_8 e185_9 e185_10 e185_11 e185_12 e185_13 e185_14 e185_15 e185_16 e185_17 e185_18 e185_19 e185_20 q185
                  unfold post_X14_dots_t at q185
                  obtain ⟨q185_1, q185_2, q185_3, q185_4, q185_5, q185_6⟩ := q185
                  (try simp only [Ks169, NBP, NBQ] at q185_1 q185_2 q185_3 q185_4 q185_5 q185_6 e185_0 e185_1 e185_2 e185_3 e185_4 e185_5 e185_6 e185_7 e185_8 e185_9 e185_10 e185_11 e185_12 e185_13 e185_14 e185_15 e185_16 e185_17 e185_18 e185_19 e185_20)
                  have Ks185 : rR s185 7 = rR σ 7 := by (try simp only [rR_sF, rR_sA, rR_sT, rR_sL] at e185_0 e185_1 e185_2 e185_3 e185_4 e185_5 e185_6 e185_7 e185_8 e185_9 e185_10 e185_11 e185_12 e185_13 e185_14 e185_15 e185_16 e185_17 e185_18 e185_19 e185_20); omega
                  have zr185 := fz_rng s185
                  have A185 : Im (fz s185 = 0) (RG σ s185 (rR σ 7) x1) := fun hf => RG.trk hp_2 (A169 (by omega)) (q185_4 hf) (by omega)
                  have Q_185 : Im (fz s185 = 0) _ := fun hf => RG.tsA hp_2 (q185_4 hf) (Q_169 (by omega))
                  have rNMp_185 := e185_0 rNMp_169; clear e185_0
                  have TPRp_185 := e185_1 TPRp_169; clear e185_1
                  have WNp_185 := e185_2 WNp_169; clear e185_2
                  have PNp_185 := e185_3 PNp_169; clear e185_3
                  have CCp_185 := e185_4 CCp_169; clear e185_4
                  have T_h218 : Im (fz s185 = 0) (TS s185 (rR σ 7) 106 (tr s185 (rR σ 7) 2 x1) 0 (rF σ 0 31) 0 (rF σ (rR σ 7) 7) (rF s185 (rR σ 7) 7) 0 0 (rF σ (rR σ 7) 32) (rF s185 (rR σ 7) 32)) := fun hf => by rw [q185_6 hf]; exact (RG.tsA hp_2 (q185_4 hf) (OQ.done (F_169 (by omega)))).cst
                  exact (by (try simp only [post_X14_readArgs, Ks185]); (all_goals (repeat' (first | with_reducible intro _ | with_reducible apply And.intro))); all_goals (first | assumption | trivial | (unfold NBP; (try simp only [Ks185]); omega) | (unfold NBQ; (try simp only [Ks185]); omega) | omega | (exact fun hf_ => (A185 (by omega))) | (exact fun hf_ => (Q_185 (by omega)).cst) | (exact fun hf_ => (T_h218 (by omega)).cst) | (exact fun hf_ => absurd hf_ (by omega)) | (split <;> omega) | (exact ⟨_, _, _, _, _, _, X73, by omega, by omega⟩) | done))
        · have z97 := fz_n c97
          exact (by (try simp only [post_X14_readArgs, Ks88]); (all_goals (repeat' (first | with_reducible intro _ | with_reducible apply And.intro))); all_goals (first | assumption | trivial | (unfold NBP; (try simp only [Ks88]); omega) | (unfold NBQ; (try simp only [Ks88]); omega) | omega | (exact fun hf_ => (A88 (by omega))) | (exact fun hf_ => (F_88 (by omega)).cst) | (exact fun hf_ => (Q_88 (by omega)).cst) | (exact fun hf_ => (P_h76 (by omega)).cst) | (exact fun hf_ => Pn_h77 (by omega)) | (exact fun hf_ => absurd hf_ (by omega)) | (split <;> omega) | (exact ⟨_, _, _, _, _, _, X73, by omega, by omega⟩) | done))
      · have X73 := OQ.done (I55_12 (by omega))
        refine ⟨(by (try simp only [pre_X14_readNamed, Ks55]); (all_goals (repeat' (first | with_reducible intro _ | with_reducible apply And.intro))); all_goals (first | assumption | trivial | (unfold NBP; (try simp only [Ks55]); omega) | (unfold NBQ; (try simp only [Ks55]); omega) | omega | (exact fun hf_ => (I55_6 (by omega))) | (exact fun hf_ => (I55_12 (by omega)).cst) | (exact fun hf_ => absurd hf_ (by omega)) | (split <;> omega) | (exact ⟨_, _, _, _, _, _, X73, by omega, by omega⟩) | done)), ?_⟩
        refine ⟨(by (try simp only [rk_X14_readNamed, Ks55]); (all_goals (repeat' (first | with_reducible intro _ | with_reducible apply And.intro))); all_goals (first | assumption | trivial | (unfold NBP; (try simp only [Ks55]); omega) | (unfold NBQ; (try simp only [Ks55]); omega) | omega | (exact fun hf_ => (I55_6 (by omega))) | (exact fun hf_ => (I55_12 (by omega)).cst) | (exact fun hf_ => absurd hf_ (by omega)) | (split <;> omega) | (exact ⟨_, _, _, _, _, _, X73, by omega, by omega⟩) | done)), ?_⟩
        intro v73 s73 hv73 Ws73 e73_0 e73_1 e73_2 e73_3 e73_4 e73_5 e73_6 e73_7 e73_8 e73_9 q73
        unfold rng at hv73
        unfold post_X14_readNamed at q73
        obtain ⟨q73_1, q73_2, q73_3, q73_4, q73_5, q73_6, q73_7, q73_8, q73_9, q73_10⟩ := q73
        (try simp only [Ks55, NBP, NBQ] at q73_1 q73_2 q73_3 q73_4 q73_5 q73_6 q73_7 q73_8 q73_9 q73_10 e73_0 e73_1 e73_2 e73_3 e73_4 e73_5 e73_6 e73_7 e73_8 e73_9)
        have Ks73 : rR s73 7 = rR σ 7 := by (try simp only [rR_sF, rR_sA, rR_sT, rR_sL] at e73_0 e73_1 e73_2 e73_3 e73_4 e73_5 e73_6 e73_7 e73_8 e73_9); omega
        have zr73 := fz_rng s73
        have A73 : Im (fz s73 = 0) (RG σ s73 (rR σ 7) x1) := fun hf => RG.trk hp_2 (I55_6 (by omega)) (q73_5 hf) (by omega)
        have F_73 : Im (fz s73 = 0) _ := fun hf => OQ.rg hp_2 (q73_5 hf) (I55_12 (by omega))
        have TPRp_73 := e73_0 TPRp_55; clear e73_0
        have CCp_73 := e73_1 CCp_55; clear e73_1
        have P_h236 : Im (fz s73 = 0) (TS s73 (rR σ 7) 6 v73 0 (rF σ 0 31) 0 (rF s55 (rR σ 7) 7) (rF s73 (rR σ 7) 7) 0 0 (rF s55 (rR σ 7) 32) (rF s73 (rR σ 7) 32)) := fun hf => (q73_8 hf).cst
        have Pn_h237 : Im (fz s73 = 0) (tr s73 (rR σ 7) 5 v73 = 0) := fun hf => q73_10 hf
        intro hr_; unfold rng at hr_
        refine ⟨fun c97 => ?_, fun c97 => ?_⟩
        · have z97 := fz_z c97
          refine ⟨fun c102 => ?_, fun c102 => ?_⟩
          · refine ⟨(by (try simp only [Ks73]); (all_goals (repeat' (first | with_reducible intro _ | with_reducible apply And.intro))); all_goals (first | assumption | trivial | (unfold NBP; (try simp only [Ks73]); omega) | (unfold NBQ; (try simp only [Ks73]); omega) | omega | (exact fun hf_ => (A73 (by omega))) | (exact fun hf_ => (F_73 (by omega)).cst) | (exact fun hf_ => (P_h236 (by omega)).cst) | (exact fun hf_ => Pn_h237 (by omega)) | (exact fun hf_ => absurd hf_ (by omega)) | (split <;> omega) | (exact ⟨_, _, _, _, _, _, X73, by omega, by omega⟩) | done)), ?_⟩
            have F_h243 : Im (fz s73 = 0) (OQ (sT s73 (rR σ 7) 5 y55_3 v73) (rR σ 7) 6 2 x1 v73 (rF σ 0 31) 0 (rF σ (rR σ 7) 7) (rF σ (rR σ 7) 32) (rF s73 (rR σ 7) 7) (rF s73 (rR σ 7) 32)) := fun hf => (OQ.p1 hp_2 (F_73 (by omega)) (P_h236 (by omega)) (Pn_h237 (by omega))).cst
            refine ⟨(by (try simp only [pre_X14_blanks, reduceIte, and_true, true_and, and_false, false_and, and_self, Nat.reduceEqDiff, fz_sA, rF_sA, rA_sA, rR_sA, rF_sT, rR_sT, sT_sF, fz_sT, rA_sT26 hp_2, rA_sT27 hp_2, rA_sT34 hp_2, rA_sT35 hp_2, rA_sT36 hp_2, rA_sT37 hp_2, rA_sT40 hp_2, TPRp_sT hp_2, WNp_sT hp_2, VMp_sT hp_2, KYp_sT hp_2, PPp_sT hp_2, WFp_sT hp_2, CCp_sT hp_2, rNMp_sT5, PNp_sT5, rk_n0 hp_2, Ks73]); (all_goals (repeat' (first | with_reducible intro _ | with_reducible apply And.intro))); all_goals (first | assumption | trivial | (unfold NBP; (try simp only [reduceIte, and_true, true_and, and_false, false_and, and_self, Nat.reduceEqDiff, fz_sA, rF_sA, rA_sA, rR_sA, rF_sT, rR_sT, sT_sF, fz_sT, rA_sT26 hp_2, rA_sT27 hp_2, rA_sT34 hp_2, rA_sT35 hp_2, rA_sT36 hp_2, rA_sT37 hp_2, rA_sT40 hp_2, TPRp_sT hp_2, WNp_sT hp_2, VMp_sT hp_2, KYp_sT hp_2, PPp_sT hp_2, WFp_sT hp_2, CCp_sT hp_2, rNMp_sT5, PNp_sT5, rk_n0 hp_2, Ks73]); omega) | (unfold NBQ; (try simp only [reduceIte, and_true, true_and, and_false, false_and, and_self, Nat.reduceEqDiff, fz_sA, rF_sA, rA_sA, rR_sA, rF_sT, rR_sT, sT_sF, fz_sT, rA_sT26 hp_2, rA_sT27 hp_2, rA_sT34 hp_2, rA_sT35 hp_2, rA_sT36 hp_2, rA_sT37 hp_2, rA_sT40 hp_2, TPRp_sT hp_2, WNp_sT hp_2, VMp_sT hp_2, KYp_sT hp_2, PPp_sT hp_2, WFp_sT hp_2, CCp_sT hp_2, rNMp_sT5, PNp_sT5, rk_n0 hp_2, Ks73]); omega) | omega | (exact fun hf_ => (RG.tst hp_2 (A73 (by omega)) (by decide) (by omega))) | (exact fun hf_ => (F_h243 (by omega)).cst) | (exact fun hf_ => absurd hf_ (by omega)) | (split <;> omega) | (exact ⟨_, _, _, _, _, _, X73, by omega, by omega⟩) | done)), ?_⟩
            intro s134 Ws134 e134_0 e134_1 e134_2 e134_3 e134_4 e134_5 e134_6 e134_7 e134_8 e134_9 e134_10 e134_11 e134_12 e134_13 e134_14 e134_15 e134_16 e134_17 e134_18 e134_19 e134_20 e134_21 e134_22 R134 q134
            have q134 := dig_blanks q134 (by (try simp only [reduceIte, and_true, true_and, and_false, false_and, and_self, Nat.reduceEqDiff, fz_sA, rF_sA, rA_sA, rR_sA, rF_sT, rR_sT, sT_sF, fz_sT, rA_sT26 hp_2, rA_sT27 hp_2, rA_sT34 hp_2, rA_sT35 hp_2, rA_sT36 hp_2, rA_sT37 hp_2, rA_sT40 hp_2, TPRp_sT hp_2, WNp_sT hp_2, VMp_sT hp_2, KYp_sT hp_2, PPp_sT hp_2, WFp_sT hp_2, CCp_sT hp_2, rNMp_sT5, PNp_sT5, rk_n0 hp_2, Ks73]); omega)
            obtain ⟨q134_1, q134_2⟩ := q134
            (try simp only [reduceIte, and_true, true_and, and_false, false_and, and_self, Nat.reduceEqDiff, fz_sA, rF_sA, rA_sA, rR_sA, rF_sT, rR_sT, sT_sF, fz_sT, rA_sT26 hp_2, rA_sT27 hp_2, rA_sT34 hp_2, rA_sT35 hp_2, rA_sT36 hp_2, rA_sT37 hp_2, rA_sT40 hp_2, TPRp_sT hp_2, WNp_sT hp_2, VMp_sT hp_2, KYp_sT hp_2, PPp_sT hp_2, WFp_sT hp_2, CCp_sT hp_2, rNMp_sT5, PNp_sT5, rk_n0 hp_2, Ks73, NBP, NBQ] at q134_1 q134_2 e134_0 e134_1 e134_2 e134_3 e134_4 e134_5 e134_6 e134_7 e134_8 e134_9 e134_10 e134_11 e134_12 e134_13 e134_14 e134_15 e134_16 e134_17 e134_18 e134_19 e134_20 e134_21 e134_22 R134)
            have Ks134 : rR s134 7 = rR σ 7 := by (try simp only [rR_sF, rR_sA, rR_sT, rR_sL] at e134_0 e134_1 e134_2 e134_3 e134_4 e134_5 e134_6 e134_7 e134_8 e134_9 e134_10 e134_11 e134_12 e134_13 e134_14 e134_15 e134_16 e134_17 e134_18 e134_19 e134_20 e134_21 e134_22 R134); omega
            have zr134 := fz_rng s134
            have A134 : Im (fz s134 = 0) (RG σ s134 (rR σ 7) x1) := fun hf => RG.trk hp_2 (RG.tst hp_2 (A73 (by omega)) (by decide) (by omega)) R134 (by omega)
            have F_134 : Im (fz s134 = 0) _ := fun hf => OQ.rg hp_2 R134 (F_h243 (by omega))
            have rNMp_134 := e134_0 q73_2; clear e134_0
            have TPRp_134 := e134_1 TPRp_73; clear e134_1
            have WNp_134 := e134_2 q73_3; clear e134_2
            have PNp_134 := e134_3 q73_4; clear e134_3
            have CCp_134 := e134_4 CCp_73; clear e134_4
            refine ⟨(by (try simp only [pre_X14_here, Ks134]); (all_goals (repeat' (first | with_reducible intro _ | with_reducible apply And.intro))); all_goals (first | assumption | trivial | (unfold NBP; (try simp only [Ks134]); omega) | (unfold NBQ; (try simp only [Ks134]); omega) | omega | (exact fun hf_ => (A134 (by omega))) | (exact fun hf_ => (F_134 (by omega)).cst) | (exact fun hf_ => absurd hf_ (by omega)) | (split <;> omega) | (exact ⟨_, _, _, _, _, _, X73, by omega, by omega⟩) | done)), ?_⟩
            intro v138 hv138 q138
            unfold rng at hv138
            unfold post_X14_here at q138
            obtain ⟨q138_1, q138_2⟩ := q138
            (try simp only [Ks134, NBP, NBQ] at q138_1 q138_2)
            refine ⟨fun c143 => ?_, fun c143 => ?_⟩
            · exact (by (try simp only [inv_X14_readArgs_55, mu_X14_readArgs_55, mu_X14_readArgs_55, Ks134]); (all_goals (repeat' (first | with_reducible intro _ | with_reducible apply And.intro))); all_goals (first | assumption | trivial | (unfold NBP; (try simp only [Ks134]); omega) | (unfold NBQ; (try simp only [Ks134]); omega) | omega | (exact fun hf_ => (A134 (by omega))) | (exact fun hf_ => (F_134 (by omega)).cst) | (exact fun hf_ => absurd hf_ (by omega)) | (split <;> omega) | (exact ⟨_, _, _, _, _, _, X73, by omega, by omega⟩) | done))
            · intro hr_; unfold rng at hr_
              refine ⟨(by (try simp only [rng, Ks134]); (all_goals (repeat' (first | with_reducible intro _ | with_reducible apply And.intro))); all_goals (first | assumption | trivial | (unfold NBP; (try simp only [Ks134]); omega) | (unfold NBQ; (try simp only [Ks134]); omega) | omega | (exact fun hf_ => (A134 (by omega))) | (exact fun hf_ => (F_134 (by omega)).cst) | (exact fun hf_ => absurd hf_ (by omega)) | (split <;> omega) | (exact ⟨_, _, _, _, _, _, X73, by omega, by omega⟩) | done)), ?_⟩
              refine ⟨(by (try simp only [pre_X14_blanks, reduceIte, and_true, true_and, and_false, false_and, and_self, Nat.reduceEqDiff, fz_sF29, rF_sF, rA_sF, rR_sF, tr_sF, TS_sF, LQ_sF, MI_sF, IG_sF, HQ_sF, OQ_sF, rNMp_sF, PNp_sF, RG_l29, RG_r29, TPRp_sF29, WNp_sF29, VMp_sF29, KYp_sF29, PPp_sF29, WFp_sF29, CCp_sF29, rk_n0 hp_2, Ks134]); (all_goals (repeat' (first | with_reducible intro _ | with_reducible apply And.intro))); all_goals (first | assumption | trivial | (unfold NBP; (try simp only [reduceIte, and_true, true_and, and_false, false_and, and_self, Nat.reduceEqDiff, fz_sF29, rF_sF, rA_sF, rR_sF, tr_sF, TS_sF, LQ_sF, MI_sF, IG_sF, HQ_sF, OQ_sF, rNMp_sF, PNp_sF, RG_l29, RG_r29, TPRp_sF29, WNp_sF29, VMp_sF29, KYp_sF29, PPp_sF29, WFp_sF29, CCp_sF29, rk_n0 hp_2, Ks134]); omega) | (unfold NBQ; (try simp only [reduceIte, and_true, true_and, and_false, false_and, and_self, Nat.reduceEqDiff, fz_sF29, rF_sF, rA_sF, rR_sF, tr_sF, TS_sF, LQ_sF, MI_sF, IG_sF, HQ_sF, OQ_sF, rNMp_sF, PNp_sF, RG_l29, RG_r29, TPRp_sF29, WNp_sF29, VMp_sF29, KYp_sF29, PPp_sF29, WFp_sF29, CCp_sF29, rk_n0 hp_2, Ks134]); omega) | omega | (exact fun hf_ => (A134 (by omega))) | (exact fun hf_ => (F_134 (by omega)).cst) | (exact fun hf_ => absurd hf_ (by omega)) | (split <;> omega) | (exact ⟨_, _, _, _, _, _, X73, by omega, by omega⟩) | done)), ?_⟩
              intro s169 Ws169 e169_0 e169_1 e169_2 e169_3 e169_4 e169_5 e169_6 e169_7 e169_8 e169_9 e169_10 e169_11 e169_12 e169_13 e169_14 e169_15 e169_16 e169_17 e169_18 e169_19 e169_20 e169_21 e169_22 R169 q169
              have q169 := dig_blanks q169 (by (try simp only [reduceIte, and_true, true_and, and_false, false_and, and_self, Nat.reduceEqDiff, fz_sF29, rF_sF, rA_sF, rR_sF, tr_sF, TS_sF, LQ_sF, MI_sF, IG_sF, HQ_sF, OQ_sF, rNMp_sF, PNp_sF, RG_l29, RG_r29, TPRp_sF29, WNp_sF29, VMp_sF29, KYp_sF29, PPp_sF29, WFp_sF29, CCp_sF29, rk_n0 hp_2, Ks134]); omega)
              obtain ⟨q169_1, q169_2⟩ := q169
              (try simp only [reduceIte, and_true, true_and, and_false, false_and, and_self, Nat.reduceEqDiff, fz_sF29, rF_sF, rA_sF, rR_sF, tr_sF, TS_sF, LQ_sF, MI_sF, IG_sF, HQ_sF, OQ_sF, rNMp_sF, PNp_sF, RG_l29, RG_r29, TPRp_sF29, WNp_sF29, VMp_sF29, KYp_sF29, PPp_sF29, WFp_sF29, CCp_sF29, rk_n0 hp_2, Ks134, NBP, NBQ] at q169_1 q169_2 e169_0 e169_1 e169_2 e169_3 e169_4 e169_5 e169_6 e169_7 e169_8 e169_9 e169_10 e169_11 e169_12 e169_13 e169_14 e169_15 e169_16 e169_17 e169_18 e169_19 e169_20 e169_21 e169_22 R169)
              have Ks169 : rR s169 7 = rR σ 7 := by (try simp only [rR_sF, rR_sA, rR_sT, rR_sL] at e169_0 e169_1 e169_2 e169_3 e169_4 e169_5 e169_6 e169_7 e169_8 e169_9 e169_10 e169_11 e169_12 e169_13 e169_14 e169_15 e169_16 e169_17 e169_18 e169_19 e169_20 e169_21 e169_22 R169); omega
              have zr169 := fz_rng s169
              have A169 : Im (fz s169 = 0) (RG σ s169 (rR σ 7) x1) := fun hf => RG.trk hp_2 (A134 (by omega)) R169 (by omega)
              have F_169 : Im (fz s169 = 0) _ := fun hf => OQ.rg hp_2 R169 (F_134 (by omega))
              have rNMp_169 := e169_0 rNMp_134; clear e169_0
              have TPRp_169 := e169_1 TPRp_134; clear e169_1
              have WNp_169 := e169_2 WNp_134; clear e169_2
              have PNp_169 := e169_3 PNp_134; clear e169_3
              have CCp_169 := e169_4 CCp_134; clear e169_4
              refine ⟨fun c173 => ?_, fun c173 => ?_⟩
              · exact (by (try simp only [inv_X14_readArgs_55, mu_X14_readArgs_55, mu_X14_readArgs_55, Ks169]); (all_goals (repeat' (first | with_reducible intro _ | with_reducible apply And.intro))); all_goals (first | assumption | trivial | (unfold NBP; (try simp only [Ks169]); omega) | (unfold NBQ; (try simp only [Ks169]); omega) | omega | (exact fun hf_ => (A169 (by omega))) | (exact fun hf_ => (F_169 (by omega)).cst) | (exact fun hf_ => absurd hf_ (by omega)) | (split <;> omega) | (exact ⟨_, _, _, _, _, _, X73, by omega, by omega⟩) | done))
              · refine ⟨(by (try simp only [pre_X14_isDots, Ks169]); (all_goals (repeat' (first | with_reducible intro _ | with_reducible apply And.intro))); all_goals (first | assumption | trivial | (unfold NBP; (try simp only [Ks169]); omega) | (unfold NBQ; (try simp only [Ks169]); omega) | omega | (exact fun hf_ => (A169 (by omega))) | (exact fun hf_ => (F_169 (by omega)).cst) | (exact fun hf_ => absurd hf_ (by omega)) | (split <;> omega) | (exact ⟨_, _, _, _, _, _, X73, by omega, by omega⟩) | done)), ?_⟩
                intro v177 hv177 q177
                unfold rng at hv177
                unfold post_X14_isDots at q177
                obtain ⟨q177_1, q177_2⟩ := q177
                (try simp only [Ks169, NBP, NBQ] at q177_1 q177_2)
                refine ⟨fun c180 => ?_, fun c180 => ?_⟩
                · exact (by (try simp only [inv_X14_readArgs_55, mu_X14_readArgs_55, mu_X14_readArgs_55, Ks169]); (all_goals (repeat' (first | with_reducible intro _ | with_reducible apply And.intro))); all_goals (first | assumption | trivial | (unfold NBP; (try simp only [Ks169]); omega) | (unfold NBQ; (try simp only [Ks169]); omega) | omega | (exact fun hf_ => (A169 (by omega))) | (exact fun hf_ => (F_169 (by omega)).cst) | (exact fun hf_ => absurd hf_ (by omega)) | (split <;> omega) | (exact ⟨_, _, _, _, _, _, X73, by omega, by omega⟩) | done))
                · refine ⟨(by (try simp only [pre_X14_dots_t, Ks169]); (all_goals (repeat' (first | with_reducible intro _ | with_reducible apply And.intro))); all_goals (first | assumption | trivial | (unfold NBP; (try simp only [Ks169]); omega) | (unfold NBQ; (try simp only [Ks169]); omega) | omega | (exact fun hf_ => (A169 (by omega))) | (exact fun hf_ => (F_169 (by omega)).cst) | (exact fun hf_ => absurd hf_ (by omega)) | (split <;> omega) | (exact ⟨_, _, _, _, _, _, X73, by omega, by omega⟩) | done)), ?_⟩
                  intro s185 Ws185 e185_0 e185_1 e185_2 e185_3 e185_4 e185_5 e185_6 e185_7 e185_8 e185_9 e185_10 e185_11 e185_12 e185_13 e185_14 e185_15 e185_16 e185_17 e185_18 e185_19 e185_20 q185
                  unfold post_X14_dots_t at q185
                  obtain ⟨q185_1, q185_2, q185_3, q185_4, q185_5, q185_6⟩ := q185
                  (try simp only [Ks169, NBP, NBQ] at q185_1 q185_2 q185_3 q185_4 q185_5 q185_6 e185_0 e185_1 e185_2 e185_3 e185_4 e185_5 e185_6 e185_7 e185_8 e185_9 e185_10 e185_11 e185_12 e185_13 e185_14 e185_15 e185_16 e185_17 e185_18 e185_19 e185_20)
                  have Ks185 : rR s185 7 = rR σ 7 := by (try simp only [rR_sF, rR_sA, rR_sT, rR_sL] at e185_0 e185_1 e185_2 e185_3 e185_4 e185_5 e185_6 e185_7 e185_8 e185_9 e185_10 e185_11 e185_12 e185_13 e185_14 e185_15 e185_16 e185_17 e185_18 e185_19 e185_20); omega
                  have zr185 := fz_rng s185
                  have A185 : Im (fz s185 = 0) (RG σ s185 (rR σ 7) x1) := fun hf => RG.trk hp_2 (A169 (by omega)) (q185_4 hf) (by omega)
                  have rNMp_185 := e185_0 rNMp_169; clear e185_0
                  have TPRp_185 := e185_1 TPRp_169; clear e185_1
                  have WNp_185 := e185_2 WNp_169; clear e185_2
                  have PNp_185 := e185_3 PNp_169; clear e185_3
                  have CCp_185 := e185_4 CCp_169; clear e185_4
                  have T_h305 : Im (fz s185 = 0) (TS s185 (rR σ 7) 106 (tr s185 (rR σ 7) 2 x1) 0 (rF σ 0 31) 0 (rF σ (rR σ 7) 7) (rF s185 (rR σ 7) 7) 0 0 (rF σ (rR σ 7) 32) (rF s185 (rR σ 7) 32)) := fun hf => by rw [q185_6 hf]; exact (RG.tsA hp_2 (q185_4 hf) (OQ.done (F_169 (by omega)))).cst
                  exact (by (try simp only [post_X14_readArgs, Ks185]); (all_goals (repeat' (first | with_reducible intro _ | with_reducible apply And.intro))); all_goals (first | assumption | trivial | (unfold NBP; (try simp only [Ks185]); omega) | (unfold NBQ; (try simp only [Ks185]); omega) | omega | (exact fun hf_ => (A185 (by omega))) | (exact fun hf_ => (T_h305 (by omega)).cst) | (exact fun hf_ => absurd hf_ (by omega)) | (split <;> omega) | (exact ⟨_, _, _, _, _, _, X73, by omega, by omega⟩) | done))
          · refine ⟨(by (try simp only [Ks73]); (all_goals (repeat' (first | with_reducible intro _ | with_reducible apply And.intro))); all_goals (first | assumption | trivial | (unfold NBP; (try simp only [Ks73]); omega) | (unfold NBQ; (try simp only [Ks73]); omega) | omega | (exact fun hf_ => (A73 (by omega))) | (exact fun hf_ => (F_73 (by omega)).cst) | (exact fun hf_ => (P_h236 (by omega)).cst) | (exact fun hf_ => Pn_h237 (by omega)) | (exact fun hf_ => absurd hf_ (by omega)) | (split <;> omega) | (exact ⟨_, _, _, _, _, _, X73, by omega, by omega⟩) | done)), ?_⟩
            have F_h308 : Im (fz s73 = 0) (OQ (sT s73 (rR σ 7) 2 x1 v73) (rR σ 7) 6 2 x1 v73 (rF σ 0 31) 0 (rF σ (rR σ 7) 7) (rF σ (rR σ 7) 32) (rF s73 (rR σ 7) 7) (rF s73 (rR σ 7) 32)) := fun hf => (OQ.p0 hp_2 (F_73 (by omega)) (P_h236 (by omega)) (Pn_h237 (by omega))).cst
            refine ⟨(by (try simp only [pre_X14_blanks, reduceIte, and_true, true_and, and_false, false_and, and_self, Nat.reduceEqDiff, fz_sA, rF_sA, rA_sA, rR_sA, rF_sT, rR_sT, sT_sF, fz_sT, rA_sT26 hp_2, rA_sT27 hp_2, rA_sT34 hp_2, rA_sT35 hp_2, rA_sT36 hp_2, rA_sT37 hp_2, rA_sT40 hp_2, TPRp_sT hp_2, WNp_sT hp_2, VMp_sT hp_2, KYp_sT hp_2, PPp_sT hp_2, WFp_sT hp_2, CCp_sT hp_2, rNMp_sT2, PNp_sT2, rk_n0 hp_2, Ks73]); (all_goals (repeat' (first | with_reducible intro _ | with_reducible apply And.intro))); all_goals (first | assumption | trivial | (unfold NBP; (try simp only [reduceIte, and_true, true_and, and_false, false_and, and_self, Nat.reduceEqDiff, fz_sA, rF_sA, rA_sA, rR_sA, rF_sT, rR_sT, sT_sF, fz_sT, rA_sT26 hp_2, rA_sT27 hp_2, rA_sT34 hp_2, rA_sT35 hp_2, rA_sT36 hp_2, rA_sT37 hp_2, rA_sT40 hp_2, TPRp_sT hp_2, WNp_sT hp_2, VMp_sT hp_2, KYp_sT hp_2, PPp_sT hp_2, WFp_sT hp_2, CCp_sT hp_2, rNMp_sT2, PNp_sT2, rk_n0 hp_2, Ks73]); omega) | (unfold NBQ; (try simp only [reduceIte, and_true, true_and, and_false, false_and, and_self, Nat.reduceEqDiff, fz_sA, rF_sA, rA_sA, rR_sA, rF_sT, rR_sT, sT_sF, fz_sT, rA_sT26 hp_2, rA_sT27 hp_2, rA_sT34 hp_2, rA_sT35 hp_2, rA_sT36 hp_2, rA_sT37 hp_2, rA_sT40 hp_2, TPRp_sT hp_2, WNp_sT hp_2, VMp_sT hp_2, KYp_sT hp_2, PPp_sT hp_2, WFp_sT hp_2, CCp_sT hp_2, rNMp_sT2, PNp_sT2, rk_n0 hp_2, Ks73]); omega) | omega | (exact fun hf_ => (RG.tst hp_2 (A73 (by omega)) (by decide) (by omega))) | (exact fun hf_ => (F_h308 (by omega)).cst) | (exact fun hf_ => absurd hf_ (by omega)) | (split <;> omega) | (exact ⟨_, _, _, _, _, _, X73, by omega, by omega⟩) | done)), ?_⟩
            intro s134 Ws134 e134_0 e134_1 e134_2 e134_3 e134_4 e134_5 e134_6 e134_7 e134_8 e134_9 e134_10 e134_11 e134_12 e134_13 e134_14 e134_15 e134_16 e134_17 e134_18 e134_19 e134_20 e134_21 e134_22 R134 q134
            have q134 := dig_blanks q134 (by (try simp only [reduceIte, and_true, true_and, and_false, false_and, and_self, Nat.reduceEqDiff, fz_sA, rF_sA, rA_sA, rR_sA, rF_sT, rR_sT, sT_sF, fz_sT, rA_sT26 hp_2, rA_sT27 hp_2, rA_sT34 hp_2, rA_sT35 hp_2, rA_sT36 hp_2, rA_sT37 hp_2, rA_sT40 hp_2, TPRp_sT hp_2, WNp_sT hp_2, VMp_sT hp_2, KYp_sT hp_2, PPp_sT hp_2, WFp_sT hp_2, CCp_sT hp_2, rNMp_sT2, PNp_sT2, rk_n0 hp_2, Ks73]); omega)
            obtain ⟨q134_1, q134_2⟩ := q134
            (try simp only [reduceIte, and_true, true_and, and_false, false_and, and_self, Nat.reduceEqDiff, fz_sA, rF_sA, rA_sA, rR_sA, rF_sT, rR_sT, sT_sF, fz_sT, rA_sT26 hp_2, rA_sT27 hp_2, rA_sT34 hp_2, rA_sT35 hp_2, rA_sT36 hp_2, rA_sT37 hp_2, rA_sT40 hp_2, TPRp_sT hp_2, WNp_sT hp_2, VMp_sT hp_2, KYp_sT hp_2, PPp_sT hp_2, WFp_sT hp_2, CCp_sT hp_2, rNMp_sT2, PNp_sT2, rk_n0 hp_2, Ks73, NBP, NBQ] at q134_1 q134_2 e134_0 e134_1 e134_2 e134_3 e134_4 e134_5 e134_6 e134_7 e134_8 e134_9 e134_10 e134_11 e134_12 e134_13 e134_14 e134_15 e134_16 e134_17 e134_18 e134_19 e134_20 e134_21 e134_22 R134)
            have Ks134 : rR s134 7 = rR σ 7 := by (try simp only [rR_sF, rR_sA, rR_sT, rR_sL] at e134_0 e134_1 e134_2 e134_3 e134_4 e134_5 e134_6 e134_7 e134_8 e134_9 e134_10 e134_11 e134_12 e134_13 e134_14 e134_15 e134_16 e134_17 e134_18 e134_19 e134_20 e134_21 e134_22 R134); omega
            have zr134 := fz_rng s134
            have A134 : Im (fz s134 = 0) (RG σ s134 (rR σ 7) x1) := fun hf => RG.trk hp_2 (RG.tst hp_2 (A73 (by omega)) (by decide) (by omega)) R134 (by omega)
            have F_134 : Im (fz s134 = 0) _ := fun hf => OQ.rg hp_2 R134 (F_h308 (by omega))
            have rNMp_134 := e134_0 q73_2; clear e134_0
            have TPRp_134 := e134_1 TPRp_73; clear e134_1
            have WNp_134 := e134_2 q73_3; clear e134_2
            have PNp_134 := e134_3 q73_4; clear e134_3
            have CCp_134 := e134_4 CCp_73; clear e134_4
            refine ⟨(by (try simp only [pre_X14_here, Ks134]); (all_goals (repeat' (first | with_reducible intro _ | with_reducible apply And.intro))); all_goals (first | assumption | trivial | (unfold NBP; (try simp only [Ks134]); omega) | (unfold NBQ; (try simp only [Ks134]); omega) | omega | (exact fun hf_ => (A134 (by omega))) | (exact fun hf_ => (F_134 (by omega)).cst) | (exact fun hf_ => absurd hf_ (by omega)) | (split <;> omega) | (exact ⟨_, _, _, _, _, _, X73, by omega, by omega⟩) | done)), ?_⟩
            intro v138 hv138 q138
            unfold rng at hv138
            unfold post_X14_here at q138
            obtain ⟨q138_1, q138_2⟩ := q138
            (try simp only [Ks134, NBP, NBQ] at q138_1 q138_2)
            refine ⟨fun c143 => ?_, fun c143 => ?_⟩
            · exact (by (try simp only [inv_X14_readArgs_55, mu_X14_readArgs_55, mu_X14_readArgs_55, Ks134]); (all_goals (repeat' (first | with_reducible intro _ | with_reducible apply And.intro))); all_goals (first | assumption | trivial | (unfold NBP; (try simp only [Ks134]); omega) | (unfold NBQ; (try simp only [Ks134]); omega) | omega | (exact fun hf_ => (A134 (by omega))) | (exact fun hf_ => (F_134 (by omega)).cst) | (exact fun hf_ => absurd hf_ (by omega)) | (split <;> omega) | (exact ⟨_, _, _, _, _, _, X73, by omega, by omega⟩) | done))
            · intro hr_; unfold rng at hr_
              refine ⟨(by (try simp only [rng, Ks134]); (all_goals (repeat' (first | with_reducible intro _ | with_reducible apply And.intro))); all_goals (first | assumption | trivial | (unfold NBP; (try simp only [Ks134]); omega) | (unfold NBQ; (try simp only [Ks134]); omega) | omega | (exact fun hf_ => (A134 (by omega))) | (exact fun hf_ => (F_134 (by omega)).cst) | (exact fun hf_ => absurd hf_ (by omega)) | (split <;> omega) | (exact ⟨_, _, _, _, _, _, X73, by omega, by omega⟩) | done)), ?_⟩
              refine ⟨(by (try simp only [pre_X14_blanks, reduceIte, and_true, true_and, and_false, false_and, and_self, Nat.reduceEqDiff, fz_sF29, rF_sF, rA_sF, rR_sF, tr_sF, TS_sF, LQ_sF, MI_sF, IG_sF, HQ_sF, OQ_sF, rNMp_sF, PNp_sF, RG_l29, RG_r29, TPRp_sF29, WNp_sF29, VMp_sF29, KYp_sF29, PPp_sF29, WFp_sF29, CCp_sF29, rk_n0 hp_2, Ks134]); (all_goals (repeat' (first | with_reducible intro _ | with_reducible apply And.intro))); all_goals (first | assumption | trivial | (unfold NBP; (try simp only [reduceIte, and_true, true_and, and_false, false_and, and_self, Nat.reduceEqDiff, fz_sF29, rF_sF, rA_sF, rR_sF, tr_sF, TS_sF, LQ_sF, MI_sF, IG_sF, HQ_sF, OQ_sF, rNMp_sF, PNp_sF, RG_l29, RG_r29, TPRp_sF29, WNp_sF29, VMp_sF29, KYp_sF29, PPp_sF29, WFp_sF29, CCp_sF29, rk_n0 hp_2, Ks134]); omega) | (unfold NBQ; (try simp only [reduceIte, and_true, true_and, and_false, false_and, and_self, Nat.reduceEqDiff, fz_sF29, rF_sF, rA_sF, rR_sF, tr_sF, TS_sF, LQ_sF, MI_sF, IG_sF, HQ_sF, OQ_sF, rNMp_sF, PNp_sF, RG_l29, RG_r29, TPRp_sF29, WNp_sF29, VMp_sF29, KYp_sF29, PPp_sF29, WFp_sF29, CCp_sF29, rk_n0 hp_2, Ks134]); omega) | omega | (exact fun hf_ => (A134 (by omega))) | (exact fun hf_ => (F_134 (by omega)).cst) | (exact fun hf_ => absurd hf_ (by omega)) | (split <;> omega) | (exact ⟨_, _, _, _, _, _, X73, by omega, by omega⟩) | done)), ?_⟩
              intro s169 Ws169 e169_0 e169_1 e169_2 e169_3 e169_4 e169_5 e169_6 e169_7 e169_8 e169_9 e169_10 e169_11 e169_12 e169_13 e169_14 e169_15 e169_16 e169_17 e169_18 e169_19 e169_20 e169_21 e169_22 R169 q169
              have q169 := dig_blanks q169 (by (try simp only [reduceIte, and_true, true_and, and_false, false_and, and_self, Nat.reduceEqDiff, fz_sF29, rF_sF, rA_sF, rR_sF, tr_sF, TS_sF, LQ_sF, MI_sF, IG_sF, HQ_sF, OQ_sF, rNMp_sF, PNp_sF, RG_l29, RG_r29, TPRp_sF29, WNp_sF29, VMp_sF29, KYp_sF29, PPp_sF29, WFp_sF29, CCp_sF29, rk_n0 hp_2, Ks134]); omega)
              obtain ⟨q169_1, q169_2⟩ := q169
              (try simp only [reduceIte, and_true, true_and, and_false, false_and, and_self, Nat.reduceEqDiff, fz_sF29, rF_sF, rA_sF, rR_sF, tr_sF, TS_sF, LQ_sF, MI_sF, IG_sF, HQ_sF, OQ_sF, rNMp_sF, PNp_sF, RG_l29, RG_r29, TPRp_sF29, WNp_sF29, VMp_sF29, KYp_sF29, PPp_sF29, WFp_sF29, CCp_sF29, rk_n0 hp_2, Ks134, NBP, NBQ] at q169_1 q169_2 e169_0 e169_1 e169_2 e169_3 e169_4 e169_5 e169_6 e169_7 e169_8 e169_9 e169_10 e169_11 e169_12 e169_13 e169_14 e169_15 e169_16 e169_17 e169_18 e169_19 e169_20 e169_21 e169_22 R169)
              have Ks169 : rR s169 7 = rR σ 7 := by (try simp only [rR_sF, rR_sA, rR_sT, rR_sL] at e169_0 e169_1 e169_2 e169_3 e169_4 e169_5 e169_6 e169_7 e169_8 e169_9 e169_10 e169_11 e169_12 e169_13 e169_14 e169_15 e169_16 e169_17 e169_18 e169_19 e169_20 e169_21 e169_22 R169); omega
              have zr169 := fz_rng s169
              have A169 : Im (fz s169 = 0) (RG σ s169 (rR σ 7) x1) := fun hf => RG.trk hp_2 (A134 (by omega)) R169 (by omega)
              have F_169 : Im (fz s169 = 0) _ := fun hf => OQ.rg hp_2 R169 (F_134 (by omega))
              have rNMp_169 := e169_0 rNMp_134; clear e169_0
              have TPRp_169 := e169_1 TPRp_134; clear e169_1
              have WNp_169 := e169_2 WNp_134; clear e169_2
              have PNp_169 := e169_3 PNp_134; clear e169_3
              have CCp_169 := e169_4 CCp_134; clear e169_4
              refine ⟨fun c173 => ?_, fun c173 => ?_⟩
              · exact (by (try simp only [inv_X14_readArgs_55, mu_X14_readArgs_55, mu_X14_readArgs_55, Ks169]); (all_goals (repeat' (first | with_reducible intro _ | with_reducible apply And.intro))); all_goals (first | assumption | trivial | (unfold NBP; (try simp only [Ks169]); omega) | (unfold NBQ; (try simp only [Ks169]); omega) | omega | (exact fun hf_ => (A169 (by omega))) | (exact fun hf_ => (F_169 (by omega)).cst) | (exact fun hf_ => absurd hf_ (by omega)) | (split <;> omega) | (exact ⟨_, _, _, _, _, _, X73, by omega, by omega⟩) | done))
              · refine ⟨(by (try simp only [pre_X14_isDots, Ks169]); (all_goals (repeat' (first | with_reducible intro _ | with_reducible apply And.intro))); all_goals (first | assumption | trivial | (unfold NBP; (try simp only [Ks169]); omega) | (unfold NBQ; (try simp only [Ks169]); omega) | omega | (exact fun hf_ => (A169 (by omega))) | (exact fun hf_ => (F_169 (by omega)).cst) | (exact fun hf_ => absurd hf_ (by omega)) | (split <;> omega) | (exact ⟨_, _, _, _, _, _, X73, by omega, by omega⟩) | done)), ?_⟩
                intro v177 hv177 q177
                unfold rng at hv177
                unfold post_X14_isDots at q177
                obtain ⟨q177_1, q177_2⟩ := q177
                (try simp only [Ks169, NBP, NBQ] at q177_1 q177_2)
                refine ⟨fun c180 => ?_, fun c180 => ?_⟩
                · exact (by (try simp only [inv_X14_readArgs_55, mu_X14_readArgs_55, mu_X14_readArgs_55, Ks169]); (all_goals (repeat' (first | with_reducible intro _ | with_reducible apply And.intro))); all_goals (first | assumption | trivial | (unfold NBP; (try simp only [Ks169]); omega) | (unfold NBQ; (try simp only [Ks169]); omega) | omega | (exact fun hf_ => (A169 (by omega))) | (exact fun hf_ => (F_169 (by omega)).cst) | (exact fun hf_ => absurd hf_ (by omega)) | (split <;> omega) | (exact ⟨_, _, _, _, _, _, X73, by omega, by omega⟩) | done))
                · refine ⟨(by (try simp only [pre_X14_dots_t, Ks169]); (all_goals (repeat' (first | with_reducible intro _ | with_reducible apply And.intro))); all_goals (first | assumption | trivial | (unfold NBP; (try simp only [Ks169]); omega) | (unfold NBQ; (try simp only [Ks169]); omega) | omega | (exact fun hf_ => (A169 (by omega))) | (exact fun hf_ => (F_169 (by omega)).cst) | (exact fun hf_ => absurd hf_ (by omega)) | (split <;> omega) | (exact ⟨_, _, _, _, _, _, X73, by omega, by omega⟩) | done)), ?_⟩
                  intro s185 Ws185 e185_0 e185_1 e185_2 e185_3 e185_4 e185_5 e185_6 e185_7 e185_8 e185_9 e185_10 e185_11 e185_12 e185_13 e185_14 e185_15 e185_16 e185_17 e185_18 e185_19 e185_20 q185
                  unfold post_X14_dots_t at q185
                  obtain ⟨q185_1, q185_2, q185_3, q185_4, q185_5, q185_6⟩ := q185
                  (try simp only [Ks169, NBP, NBQ] at q185_1 q185_2 q185_3 q185_4 q185_5 q185_6 e185_0 e185_1 e185_2 e185_3 e185_4 e185_5 e185_6 e185_7 e185_8 e185_9 e185_10 e185_11 e185_12 e185_13 e185_14 e185_15 e185_16 e185_17 e185_18 e185_19 e185_20)
                  have Ks185 : rR s185 7 = rR σ 7 := by (try simp only [rR_sF, rR_sA, rR_sT, rR_sL] at e185_0 e185_1 e185_2 e185_3 e185_4 e185_5 e185_6 e185_7 e185_8 e185_9 e185_10 e185_11 e185_12 e185_13 e185_14 e185_15 e185_16 e185_17 e185_18 e185_19 e185_20); omega
                  have zr185 := fz_rng s185
                  have A185 : Im (fz s185 = 0) (RG σ s185 (rR σ 7) x1) := fun hf => RG.trk hp_2 (A169 (by omega)) (q185_4 hf) (by omega)
                  have rNMp_185 := e185_0 rNMp_169; clear e185_0
                  have TPRp_185 := e185_1 TPRp_169; clear e185_1
                  have WNp_185 := e185_2 WNp_169; clear e185_2
                  have PNp_185 := e185_3 PNp_169; clear e185_3
                  have CCp_185 := e185_4 CCp_169; clear e185_4
                  have T_h370 : Im (fz s185 = 0) (TS s185 (rR σ 7) 106 (tr s185 (rR σ 7) 2 x1) 0 (rF σ 0 31) 0 (rF σ (rR σ 7) 7) (rF s185 (rR σ 7) 7) 0 0 (rF σ (rR σ 7) 32) (rF s185 (rR σ 7) 32)) := fun hf => by rw [q185_6 hf]; exact (RG.tsA hp_2 (q185_4 hf) (OQ.done (F_169 (by omega)))).cst
                  exact (by (try simp only [post_X14_readArgs, Ks185]); (all_goals (repeat' (first | with_reducible intro _ | with_reducible apply And.intro))); all_goals (first | assumption | trivial | (unfold NBP; (try simp only [Ks185]); omega) | (unfold NBQ; (try simp only [Ks185]); omega) | omega | (exact fun hf_ => (A185 (by omega))) | (exact fun hf_ => (T_h370 (by omega)).cst) | (exact fun hf_ => absurd hf_ (by omega)) | (split <;> omega) | (exact ⟨_, _, _, _, _, _, X73, by omega, by omega⟩) | done))
        · have z97 := fz_n c97
          exact (by (try simp only [post_X14_readArgs, Ks73]); (all_goals (repeat' (first | with_reducible intro _ | with_reducible apply And.intro))); all_goals (first | assumption | trivial | (unfold NBP; (try simp only [Ks73]); omega) | (unfold NBQ; (try simp only [Ks73]); omega) | omega | (exact fun hf_ => (A73 (by omega))) | (exact fun hf_ => (F_73 (by omega)).cst) | (exact fun hf_ => (P_h236 (by omega)).cst) | (exact fun hf_ => Pn_h237 (by omega)) | (exact fun hf_ => absurd hf_ (by omega)) | (split <;> omega) | (exact ⟨_, _, _, _, _, _, X73, by omega, by omega⟩) | done))
set_option maxHeartbeats 4000000 in
theorem vX14_readArgs_55m (n : Nat) (σ : rS) (x1 : Int) (gg : Nat) (hwf : rWF σ) (hx1 : rng x1) (hp : pre_X14_readArgs σ x1 gg) (hr : rk_X14_readArgs σ x1 gg ≤ n + 1) : VC_X14_readArgs_55m n σ x1 gg := by
  unfold pre_X14_readArgs at hp
  obtain ⟨hp_1, hp_2, hp_3, hp_4, hp_5, hp_6, hp_7, hp_8, hp_9, hp_10⟩ := hp
  unfold rng at hx1
  subst hp_1
  unfold rk_X14_readArgs at hr
  have hN := hp_4
  unfold NBP at hN
  have hC := hp_3
  unfold CCp at hC
  obtain ⟨hC1, hC⟩ := hC
  have zr0 := fz_rng σ
  have hr2 : fz σ = 0 → 16 * (21 - rF σ 0 31).toNat + 3 ≤ n + 1 := fun h => by rw [if_pos h] at hr; exact hr
  have hr3 : 3 ≤ n + 1 := by have := hr; split at this <;> omega
  clear hr
  unfold VC_X14_readArgs_55m
  (try simp only [inv_X14_readArgs_55, mu_X14_readArgs_55]); (all_goals (repeat' (first | with_reducible intro _ | with_reducible apply And.intro))); all_goals (first | assumption | omega | grind (splits := 20))
