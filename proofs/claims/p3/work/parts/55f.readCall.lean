set_option maxHeartbeats 20000000 in
theorem vX14_readCall (n : Nat) (σ : rS) (x1 : Int) (x2 : Int) (gg : Nat) (g : Nat → Int → Int) (K : Nat) (hwf : rWF σ) (hx1 : rng x1) (hx2 : rng x2) (hp : pre_X14_readCall σ x1 x2 gg g K) (hr : rk_X14_readCall σ x1 x2 gg g K ≤ n + 1) : VC_X14_readCall n σ x1 x2 gg g K (post_X14_readCall σ x1 x2 gg g K) := by
  unfold pre_X14_readCall at hp
  obtain ⟨hp_1, hp_2, hp_3, hp_4, hp_5, hp_6, hp_7, hp_8, hp_9, hp_10, hp_11, hp_12, hp_13⟩ := hp
  unfold rng at hx1 hx2
  subst hp_1
  unfold rk_X14_readCall at hr
  have hN := hp_4
  unfold NBP at hN
  have hC := hp_3
  unfold CCp at hC
  obtain ⟨hC1, hC⟩ := hC
  have zr0 := fz_rng σ
  have hr2 : fz σ = 0 → 16 * (21 - rF σ 0 31).toNat + 4 ≤ n + 1 := fun h => by rw [if_pos h] at hr; exact hr
  have hr3 : 4 ≤ n + 1 := by have := hr; split at this <;> omega
  clear hr
  unfold VC_X14_readCall
  refine ⟨(by (all_goals (repeat' (first | with_reducible intro _ | with_reducible apply And.intro))); all_goals (first | assumption | trivial | (unfold NBP; omega) | (unfold NBQ; omega) | omega | (have zz_ := fz_z (by assumption); omega) | (split <;> omega) | done)), ?_⟩
  refine ⟨(by (try simp only [pre_X14_place]); (all_goals (repeat' (first | with_reducible intro _ | with_reducible apply And.intro | with_reducible refine Exists.intro g ?_ | with_reducible refine Im.and ?_ ?_))); all_goals (first | assumption | trivial | ((with_reducible refine Im.i fun hf_ => ?_); first | exact ((fun _ => RG.rf) hf_) | exact (hp_8 hf_) | exact ((fun _ => GK.rf) hf_) | exact ok1.i | (exact LI.z (fun h => absurd h (by decide))) | (exact absurd hf_ (by omega)) | omega) | (unfold NBP; omega) | (unfold NBQ; omega) | omega | (have zz_ := fz_z (by assumption); omega) | (split <;> omega) | done)), ?_⟩
  intro v1 hv1 q1
  unfold rng at hv1
  unfold post_X14_place at q1
  obtain ⟨q1_1, q1_2⟩ := q1
  (try simp only [NBP, NBQ] at q1_1 q1_2)
  refine ⟨fun c6 => ?_, fun c6 => ?_⟩
  · refine ⟨(by (try simp only [pre_X14_tagName]); (all_goals (repeat' (first | with_reducible intro _ | with_reducible apply And.intro | with_reducible refine Exists.intro g ?_ | with_reducible refine Im.and ?_ ?_))); all_goals (first | assumption | trivial | ((with_reducible refine Im.i fun hf_ => ?_); first | exact ((fun _ => RG.rf) hf_) | exact (hp_8 hf_) | exact ((fun _ => GK.rf) hf_) | exact ok1.i | (exact LI.z (fun h => absurd h (by decide))) | (exact absurd hf_ (by omega)) | omega) | (unfold NBP; omega) | (unfold NBQ; omega) | omega | (have zz_ := fz_z (by assumption); omega) | (split <;> omega) | done)), ?_⟩
    intro v26 s26 hv26 Ws26 e26_0 e26_1 e26_2 e26_3 e26_4 e26_5 e26_6 e26_7 e26_8 e26_9 e26_10 e26_11 e26_12 e26_13 e26_14 e26_15 e26_16 e26_17 e26_18 e26_19 e26_20 R26 q26
    unfold rng at hv26
    have q26 := dig_tagName q26 (by omega) (by omega) (by omega)
    obtain ⟨q26_1, q26_2, q26_3, q26_4, q26_5, q26_6, q26_7, q26_8, q26_9, q26_10, q26_11, q26_12⟩ := q26
    (try simp only [NBP, NBQ] at q26_1 q26_2 q26_3 q26_4 q26_5 q26_6 q26_7 q26_8 q26_9 q26_10 q26_11 q26_12 e26_0 e26_1 e26_2 e26_3 e26_4 e26_5 e26_6 e26_7 e26_8 e26_9 e26_10 e26_11 e26_12 e26_13 e26_14 e26_15 e26_16 e26_17 e26_18 e26_19 e26_20 R26)
    have Ks26 : rR s26 7 = rR σ 7 := by first | assumption | ((try simp only [rR_sF, rR_sA, rR_sT, rR_sL] at e26_0 e26_1 e26_2 e26_3 e26_4 e26_5 e26_6 e26_7 e26_8 e26_9 e26_10 e26_11 e26_12 e26_13 e26_14 e26_15 e26_16 e26_17 e26_18 e26_19 e26_20 R26); omega)
    have zr26 := fz_rng s26
    have zc26 : fz s26 = 0 → fz σ = 0 := fun hf => by omega
    have A26 : Im (fz s26 = 0) (RG σ s26 (rR σ 7) 0) := fun hf => RG.trk hp_2 ((fun _ => RG.rf) (zc26 hf)) R26 (Or.inr (Or.inl rfl))
    have Ku1 : Im (fz s26 = 0) (GK g g (rF σ (rR σ 7) 7) (rF s26 (rR σ 7) 7) 0) := fun hf => GK.trans ((fun _ => GK.rf) (zc26 hf)) (GK.up (N := rF σ (rR σ 7) 7) (N' := rF s26 (rR σ 7) 7) (c := 0) (by first | assumption | omega | (simp only [rF_sT, rF_sA]; omega))) (Or.inr (Or.inl rfl))
    have Gu2 : Im (fz s26 = 0) (GS s26 (rR σ 7) g) := fun hf => GS.mv hp_2 (hp_8 (zc26 hf)) R26 (by first | assumption | omega | (simp only [rF_sT, rF_sA]; omega)) (by first | (exact Int.le_of_eq (Eq.symm (by assumption))) | omega | (simp only [rF_sT, rF_sA]; omega))
    have TPRp_26 := e26_0 hC1; clear e26_0
    have WNp_26 := e26_1 hp_6; clear e26_1
    have PNp_26 := e26_2 hp_7; clear e26_2
    have CCp_26 := e26_3 hp_3; clear e26_3
    intro hr_; unfold rng at hr_
    refine ⟨fun c35 => ?_, fun c35 => ?_⟩
    · have z35 := fz_z c35
      intro hr_; unfold rng at hr_
      refine ⟨(by (try simp only [pre_X14_blanks, Ks26]); (all_goals (repeat' (first | with_reducible intro _ | with_reducible apply And.intro | with_reducible refine Exists.intro g ?_ | with_reducible refine Im.and ?_ ?_))); all_goals (first | assumption | trivial | ((with_reducible refine Im.i fun hf_ => ?_); first | exact (A26 hf_) | exact (Gu2 hf_) | exact (Ku1 hf_) | exact ok1.i | (exact LI.z (fun h => absurd h (by decide))) | (exact absurd hf_ (by omega)) | omega) | (unfold NBP; (try simp only [Ks26]); omega) | (unfold NBQ; (try simp only [Ks26]); omega) | omega | (have zz_ := fz_z (by assumption); omega) | (split <;> omega) | done)), ?_⟩
      intro s47 Ws47 e47_0 e47_1 e47_2 e47_3 e47_4 e47_5 e47_6 e47_7 e47_8 e47_9 e47_10 e47_11 e47_12 e47_13 e47_14 e47_15 e47_16 e47_17 e47_18 e47_19 e47_20 e47_21 e47_22 e47_23 e47_24 e47_25 e47_26 R47 q47
      have q47 := dig_blanks q47 (by (try simp only [Ks26]); omega)
      obtain ⟨q47_1, q47_2⟩ := q47
      (try simp only [Ks26, NBP, NBQ] at q47_1 q47_2 e47_0 e47_1 e47_2 e47_3 e47_4 e47_5 e47_6 e47_7 e47_8 e47_9 e47_10 e47_11 e47_12 e47_13 e47_14 e47_15 e47_16 e47_17 e47_18 e47_19 e47_20 e47_21 e47_22 e47_23 e47_24 e47_25 e47_26 R47)
      have Ks47 : rR s47 7 = rR σ 7 := by first | assumption | ((try simp only [rR_sF, rR_sA, rR_sT, rR_sL] at e47_0 e47_1 e47_2 e47_3 e47_4 e47_5 e47_6 e47_7 e47_8 e47_9 e47_10 e47_11 e47_12 e47_13 e47_14 e47_15 e47_16 e47_17 e47_18 e47_19 e47_20 e47_21 e47_22 e47_23 e47_24 e47_25 e47_26 R47); omega)
      have zr47 := fz_rng s47
      have zc47 : fz s47 = 0 → fz s26 = 0 := fun hf => by omega
      have A47 : Im (fz s47 = 0) (RG σ s47 (rR σ 7) 0) := fun hf => RG.trk hp_2 (A26 (zc47 hf)) R47 (Or.inr (Or.inl rfl))
      have Ku3 : Im (fz s47 = 0) (GK g g (rF σ (rR σ 7) 7) (rF s47 (rR σ 7) 7) 0) := fun hf => GK.trans (Ku1 (zc47 hf)) (GK.up (N := rF s26 (rR σ 7) 7) (N' := rF s47 (rR σ 7) 7) (c := 0) (by first | assumption | omega | (simp only [rF_sT, rF_sA]; omega))) (Or.inr (Or.inl rfl))
      have Gu4 : Im (fz s47 = 0) (GS s47 (rR σ 7) g) := fun hf => GS.mv hp_2 (Gu2 (zc47 hf)) R47 (by first | assumption | omega | (simp only [rF_sT, rF_sA]; omega)) (by first | (exact Int.le_of_eq (Eq.symm (by assumption))) | omega | (simp only [rF_sT, rF_sA]; omega))
      have rNMp_47 := e47_0 q26_4; clear e47_0
      have TPRp_47 := e47_1 TPRp_26; clear e47_1
      have WNp_47 := e47_2 WNp_26; clear e47_2
      have PNp_47 := e47_3 PNp_26; clear e47_3
      have CCp_47 := e47_4 CCp_26; clear e47_4
      refine ⟨(by (try simp only [pre_X14_here, Ks47]); (all_goals (repeat' (first | with_reducible intro _ | with_reducible apply And.intro | with_reducible refine Exists.intro g ?_ | with_reducible refine Im.and ?_ ?_))); all_goals (first | assumption | trivial | ((with_reducible refine Im.i fun hf_ => ?_); first | exact (A47 hf_) | exact (Gu4 hf_) | exact (Ku3 hf_) | exact ok1.i | (exact LI.z (fun h => absurd h (by decide))) | (exact absurd hf_ (by omega)) | omega) | (unfold NBP; (try simp only [Ks47]); omega) | (unfold NBQ; (try simp only [Ks47]); omega) | omega | (have zz_ := fz_z (by assumption); omega) | (split <;> omega) | done)), ?_⟩
      intro v51 hv51 q51
      unfold rng at hv51
      unfold post_X14_here at q51
      obtain ⟨q51_1, q51_2⟩ := q51
      (try simp only [Ks47, NBP, NBQ] at q51_1 q51_2)
      refine ⟨fun c56 => ?_, fun c56 => ?_⟩
      · intro hr_; unfold rng at hr_
        refine ⟨(by (try simp only [rng, Ks47]); (all_goals (repeat' (first | with_reducible intro _ | with_reducible apply And.intro | with_reducible refine Exists.intro g ?_ | with_reducible refine Im.and ?_ ?_))); all_goals (first | assumption | trivial | ((with_reducible refine Im.i fun hf_ => ?_); first | exact (A47 hf_) | exact (Gu4 hf_) | exact (Ku3 hf_) | exact ok1.i | (exact LI.z (fun h => absurd h (by decide))) | (exact absurd hf_ (by omega)) | omega) | (unfold NBP; (try simp only [Ks47]); omega) | (unfold NBQ; (try simp only [Ks47]); omega) | omega | (have zz_ := fz_z (by assumption); omega) | (split <;> omega) | done)), ?_⟩
        refine ⟨(by (try simp only [pre_X14_node_t, reduceIte, and_true, true_and, and_false, false_and, and_self, Nat.reduceEqDiff, fz_sF29, rF_sF, rA_sF, rR_sF, tr_sF, rNMp_sF, PNp_sF, GS_F29, OP_F29, NR_F29, LI_F29, RG_l29, RG_r29, TPRp_sF29, WNp_sF29, VMp_sF29, KYp_sF29, PPp_sF29, WFp_sF29, CCp_sF29, rk_n0 hp_2, Ks47]); (all_goals (repeat' (first | with_reducible intro _ | with_reducible apply And.intro | with_reducible refine Exists.intro g ?_ | with_reducible refine Im.and ?_ ?_))); all_goals (first | assumption | trivial | ((with_reducible refine Im.i fun hf_ => ?_); first | exact (A47 hf_) | exact (Gu4 hf_) | exact (Ku3 hf_) | exact ok1.i | (exact LI.z (fun h => absurd h (by decide))) | (exact absurd hf_ (by omega)) | omega) | (unfold NBP; (try simp only [reduceIte, and_true, true_and, and_false, false_and, and_self, Nat.reduceEqDiff, fz_sF29, rF_sF, rA_sF, rR_sF, tr_sF, rNMp_sF, PNp_sF, GS_F29, OP_F29, NR_F29, LI_F29, RG_l29, RG_r29, TPRp_sF29, WNp_sF29, VMp_sF29, KYp_sF29, PPp_sF29, WFp_sF29, CCp_sF29, rk_n0 hp_2, Ks47]); omega) | (unfold NBQ; (try simp only [reduceIte, and_true, true_and, and_false, false_and, and_self, Nat.reduceEqDiff, fz_sF29, rF_sF, rA_sF, rR_sF, tr_sF, rNMp_sF, PNp_sF, GS_F29, OP_F29, NR_F29, LI_F29, RG_l29, RG_r29, TPRp_sF29, WNp_sF29, VMp_sF29, KYp_sF29, PPp_sF29, WFp_sF29, CCp_sF29, rk_n0 hp_2, Ks47]); omega) | omega | (have zz_ := fz_z (by assumption); omega) | (split <;> omega) | done)), ?_⟩
        intro v107 s107 hv107 Ws107 e107_0 e107_1 e107_2 e107_3 e107_4 e107_5 e107_6 e107_7 e107_8 e107_9 e107_10 e107_11 e107_12 e107_13 e107_14 e107_15 e107_16 e107_17 e107_18 e107_19 e107_20 e107_21 e107_22 e107_23 e107_24 e107_25 q107
        unfold rng at hv107
        unfold post_X14_node_t at q107
        obtain ⟨q107_1, q107_2, q107_3, q107_4, q107_5, q107_6, q107_7, q107_8, q107_9, q107_10⟩ := q107
        (try simp only [reduceIte, and_true, true_and, and_false, false_and, and_self, Nat.reduceEqDiff, fz_sF29, rF_sF, rA_sF, rR_sF, tr_sF, rNMp_sF, PNp_sF, GS_F29, OP_F29, NR_F29, LI_F29, RG_l29, RG_r29, TPRp_sF29, WNp_sF29, VMp_sF29, KYp_sF29, PPp_sF29, WFp_sF29, CCp_sF29, rk_n0 hp_2, Ks47, NBP, NBQ] at q107_1 q107_2 q107_3 q107_4 q107_5 q107_6 q107_7 q107_8 q107_9 q107_10 e107_0 e107_1 e107_2 e107_3 e107_4 e107_5 e107_6 e107_7 e107_8 e107_9 e107_10 e107_11 e107_12 e107_13 e107_14 e107_15 e107_16 e107_17 e107_18 e107_19 e107_20 e107_21 e107_22 e107_23 e107_24 e107_25)
        have Ks107 : rR s107 7 = rR σ 7 := by first | assumption | ((try simp only [rR_sF, rR_sA, rR_sT, rR_sL] at e107_0 e107_1 e107_2 e107_3 e107_4 e107_5 e107_6 e107_7 e107_8 e107_9 e107_10 e107_11 e107_12 e107_13 e107_14 e107_15 e107_16 e107_17 e107_18 e107_19 e107_20 e107_21 e107_22 e107_23 e107_24 e107_25); omega)
        have zr107 := fz_rng s107
        have zc107 : fz s107 = 0 → fz s47 = 0 := fun hf => by omega
        have A107 : Im (fz s107 = 0) (RG σ s107 (rR σ 7) 0) := fun hf => RG.trk hp_2 (A47 (zc107 hf)) q107_3 (Or.inr (Or.inl rfl))
        obtain ⟨g107, X107⟩ := EN_c (P := fz s107 = 0) ((rF s47 0 29) + 1) (rF σ 0 31) hp_11 hp_10 hp_2 (fun hf => Gu4 (zc107 hf)) (fun hf => q107_3) q107_1 q107_2 q107_4 q107_5 q107_6 q107_9 (fun hf => by (try simp only [rF_sT, rF_sA]); (repeat' (with_reducible apply And.intro)) <;> first | trivial | omega)
        have Ku5 : Im (fz s107 = 0) (GK g g107 (rF σ (rR σ 7) 7) (rF s107 (rR σ 7) 7) 0) := fun hf => GK.gs (Ku3 (zc107 hf)) (X107 hf).2.1
        have Gu6 : Im (fz s107 = 0) _ := fun hf => (X107 hf).1
        have O107 : Im (fz s107 = 0) _ := fun hf => (X107 hf).2.2.1
        have L107_2 : Im (fz s107 = 0) (LI s107 (rR σ 7) g107 v107 2 K 0) := fun hf => LI.z (fun h => (X107 hf).2.2.2)
        have rNMp_107 := e107_0 rNMp_47; clear e107_0
        have TPRp_107 := e107_1 TPRp_47; clear e107_1
        have WNp_107 := e107_2 WNp_47; clear e107_2
        have CCp_107 := e107_3 CCp_47; clear e107_3
        refine ⟨fun c122 => ?_, fun c122 => ?_⟩
        · refine ⟨(by (try simp only [Ks107]); (all_goals (repeat' (first | with_reducible intro _ | with_reducible apply And.intro | with_reducible refine Exists.intro g107 ?_ | with_reducible refine Im.and ?_ ?_))); all_goals (first | assumption | trivial | ((with_reducible refine Im.i fun hf_ => ?_); first | exact (A107 hf_) | exact (Gu6 hf_) | exact (Ku5 hf_) | exact (O107 hf_).cst | exact (L107_2 hf_) | exact ok1.i | (exact LI.z (fun h => absurd h (by decide))) | (exact absurd hf_ (by omega)) | omega) | (unfold NBP; (try simp only [Ks107]); omega) | (unfold NBQ; (try simp only [Ks107]); omega) | omega | (have zz_ := fz_z (by assumption); omega) | (split <;> omega) | done)), ?_⟩
          have A130 : Im (fz s107 = 0) (RG σ (sT s107 (rR σ 7) 4 v107 0) (rR σ 7) 0) := fun hf => RG.tst (f := 4) (i := v107) (x := 0) hp_2 (A107 hf) (by decide) (by omega)
          have Gu7 : Im (fz s107 = 0) _ := fun hf => GS.c4 (z := 0) hp_2 (Gu6 hf) (O107 hf) (Or.inl (by omega))
          have O107u8 : Im (fz s107 = 0) _ := fun hf => OP.c4 (f := 4) (i := v107) (z := 0) (O107 hf)
          have L107_2u9 : Im (fz s107 = 0) _ := fun hf => LI.c4 (f2 := 4) (i := v107) (z := 0) hp_2 (by decide) (by decide) (L107_2 hf)
          refine ⟨(by (try simp only [pre_X14_check_t, reduceIte, and_true, true_and, and_false, false_and, and_self, Nat.reduceEqDiff, fz_sA, rF_sA, rA_sA, rR_sA, rF_sT, rR_sT, sT_sF, fz_sT, rA_sT26 hp_2, rA_sT27 hp_2, rA_sT34 hp_2, rA_sT35 hp_2, rA_sT36 hp_2, rA_sT37 hp_2, rA_sT40 hp_2, TPRp_sT hp_2, WNp_sT hp_2, VMp_sT hp_2, KYp_sT hp_2, PPp_sT hp_2, WFp_sT hp_2, CCp_sT hp_2, rNMp_sT4, PNp_sT4, rk_n0 hp_2, Ks107]); (all_goals (repeat' (first | with_reducible intro _ | with_reducible apply And.intro | with_reducible refine Exists.intro g107 ?_ | with_reducible refine Im.and ?_ ?_))); all_goals (first | assumption | trivial | ((with_reducible refine Im.i fun hf_ => ?_); first | exact (A130 hf_) | exact (Gu7 hf_) | exact (Ku5 hf_) | exact (O107u8 hf_).cst | exact (L107_2u9 hf_) | exact ok1.i | (exact LI.z (fun h => absurd h (by decide))) | (exact absurd hf_ (by omega)) | omega) | (unfold NBP; (try simp only [reduceIte, and_true, true_and, and_false, false_and, and_self, Nat.reduceEqDiff, fz_sA, rF_sA, rA_sA, rR_sA, rF_sT, rR_sT, sT_sF, fz_sT, rA_sT26 hp_2, rA_sT27 hp_2, rA_sT34 hp_2, rA_sT35 hp_2, rA_sT36 hp_2, rA_sT37 hp_2, rA_sT40 hp_2, TPRp_sT hp_2, WNp_sT hp_2, VMp_sT hp_2, KYp_sT hp_2, PPp_sT hp_2, WFp_sT hp_2, CCp_sT hp_2, rNMp_sT4, PNp_sT4, rk_n0 hp_2, Ks107]); omega) | (unfold NBQ; (try simp only [reduceIte, and_true, true_and, and_false, false_and, and_self, Nat.reduceEqDiff, fz_sA, rF_sA, rA_sA, rR_sA, rF_sT, rR_sT, sT_sF, fz_sT, rA_sT26 hp_2, rA_sT27 hp_2, rA_sT34 hp_2, rA_sT35 hp_2, rA_sT36 hp_2, rA_sT37 hp_2, rA_sT40 hp_2, TPRp_sT hp_2, WNp_sT hp_2, VMp_sT hp_2, KYp_sT hp_2, PPp_sT hp_2, WFp_sT hp_2, CCp_sT hp_2, rNMp_sT4, PNp_sT4, rk_n0 hp_2, Ks107]); omega) | omega | (have zz_ := fz_z (by assumption); omega) | (split <;> omega) | done)), ?_⟩
          intro s138 Ws138 e138_0 e138_1 e138_2 e138_3 e138_4 e138_5 e138_6 e138_7 e138_8 e138_9 e138_10 e138_11 e138_12 e138_13 e138_14 e138_15 e138_16 e138_17 e138_18 e138_19 e138_20 e138_21 e138_22 e138_23 q138
          unfold post_X14_check_t at q138
          obtain ⟨q138_1, q138_2, q138_3, q138_4, q138_5, q138_6⟩ := q138
          (try simp only [reduceIte, and_true, true_and, and_false, false_and, and_self, Nat.reduceEqDiff, fz_sA, rF_sA, rA_sA, rR_sA, rF_sT, rR_sT, sT_sF, fz_sT, rA_sT26 hp_2, rA_sT27 hp_2, rA_sT34 hp_2, rA_sT35 hp_2, rA_sT36 hp_2, rA_sT37 hp_2, rA_sT40 hp_2, TPRp_sT hp_2, WNp_sT hp_2, VMp_sT hp_2, KYp_sT hp_2, PPp_sT hp_2, WFp_sT hp_2, CCp_sT hp_2, rNMp_sT4, PNp_sT4, rk_n0 hp_2, Ks107, NBP, NBQ] at q138_1 q138_2 q138_3 q138_4 q138_5 q138_6 e138_0 e138_1 e138_2 e138_3 e138_4 e138_5 e138_6 e138_7 e138_8 e138_9 e138_10 e138_11 e138_12 e138_13 e138_14 e138_15 e138_16 e138_17 e138_18 e138_19 e138_20 e138_21 e138_22 e138_23)
          have Ks138 : rR s138 7 = rR σ 7 := by first | assumption | ((try simp only [rR_sF, rR_sA, rR_sT, rR_sL] at e138_0 e138_1 e138_2 e138_3 e138_4 e138_5 e138_6 e138_7 e138_8 e138_9 e138_10 e138_11 e138_12 e138_13 e138_14 e138_15 e138_16 e138_17 e138_18 e138_19 e138_20 e138_21 e138_22 e138_23); omega)
          have zr138 := fz_rng s138
          have zc138 : fz s138 = 0 → fz s107 = 0 := fun hf => by omega
          have A138 : Im (fz s138 = 0) (RG σ s138 (rR σ 7) 0) := fun hf => RG.trk hp_2 (A130 (zc138 hf)) q138_2 (Or.inr (Or.inl rfl))
          have O107u10 : Im (fz s138 = 0) _ := fun hf => OP.gk0 (O107u8 (zc138 hf)) (GK.up (g := g107) (N := rF (sT s107 (rR σ 7) 4 v107 0) (rR σ 7) 7) (N' := rF s138 (rR σ 7) 7) (c := 0) (by first | assumption | omega | (simp only [rF_sT, rF_sA]; omega)))
          have L107_2u11 : Im (fz s138 = 0) _ := fun hf => LI.gk0 hp_2 (L107_2u9 (zc138 hf)) (O107u8 (zc138 hf)) q138_2 (GK.up (g := g107) (N := rF (sT s107 (rR σ 7) 4 v107 0) (rR σ 7) 7) (N' := rF s138 (rR σ 7) 7) (c := 0) (by first | assumption | omega | (simp only [rF_sT, rF_sA]; omega)))
          have Ku12 : Im (fz s138 = 0) (GK g g107 (rF σ (rR σ 7) 7) (rF s138 (rR σ 7) 7) 0) := fun hf => GK.trans (Ku5 (zc138 hf)) (GK.up (N := rF (sT s107 (rR σ 7) 4 v107 0) (rR σ 7) 7) (N' := rF s138 (rR σ 7) 7) (c := 0) (by first | assumption | omega | (simp only [rF_sT, rF_sA]; omega))) (Or.inr (Or.inl rfl))
          have Gu13 : Im (fz s138 = 0) (GS s138 (rR σ 7) g107) := fun hf => GS.mv hp_2 (Gu7 (zc138 hf)) q138_2 (by first | assumption | omega | (simp only [rF_sT, rF_sA]; omega)) (by first | (exact Int.le_of_eq (Eq.symm (by assumption))) | omega | (simp only [rF_sT, rF_sA]; omega))
          have rNMp_138 := e138_0 rNMp_107; clear e138_0
          have TPRp_138 := e138_1 TPRp_107; clear e138_1
          have WNp_138 := e138_2 WNp_107; clear e138_2
          have PNp_138 := e138_3 q107_10; clear e138_3
          have CCp_138 := e138_4 CCp_107; clear e138_4
          refine ⟨g107, ?_⟩
          refine ⟨K, ?_⟩
          refine ⟨(by (try simp only [pre_X14_readArgs, Ks138]); (all_goals (repeat' (first | with_reducible intro _ | with_reducible apply And.intro | with_reducible refine Exists.intro g107 ?_ | with_reducible refine Im.and ?_ ?_))); all_goals (first | assumption | trivial | ((with_reducible refine Im.i fun hf_ => ?_); first | exact (A138 hf_) | exact (Gu13 hf_) | exact (Ku12 hf_) | exact (O107u10 hf_).cst | exact (L107_2u11 hf_) | exact ok1.i | (exact LI.z (fun h => absurd h (by decide))) | (exact absurd hf_ (by omega)) | omega) | (unfold NBP; (try simp only [Ks138]); omega) | (unfold NBQ; (try simp only [Ks138]); omega) | omega | (have zz_ := fz_z (by assumption); omega) | (split <;> omega) | done)), ?_⟩
          refine ⟨(by (try simp only [rk_X14_readArgs, Ks138]); (all_goals (repeat' (first | with_reducible intro _ | with_reducible apply And.intro | with_reducible refine Exists.intro g107 ?_ | with_reducible refine Im.and ?_ ?_))); all_goals (first | assumption | trivial | ((with_reducible refine Im.i fun hf_ => ?_); first | exact (A138 hf_) | exact (Gu13 hf_) | exact (Ku12 hf_) | exact (O107u10 hf_).cst | exact (L107_2u11 hf_) | exact ok1.i | (exact LI.z (fun h => absurd h (by decide))) | (exact absurd hf_ (by omega)) | omega) | (unfold NBP; (try simp only [Ks138]); omega) | (unfold NBQ; (try simp only [Ks138]); omega) | omega | (have zz_ := fz_z (by assumption); omega) | (split <;> omega) | done)), ?_⟩
          intro s144 Ws144 e144_0 e144_1 e144_2 e144_3 e144_4 e144_5 e144_6 e144_7 e144_8 e144_9 q144
          unfold post_X14_readArgs at q144
          obtain ⟨q144_1, q144_2, q144_3, q144_4, q144_5, q144_6⟩ := q144
          (try simp only [Ks138, NBP, NBQ] at q144_1 q144_2 q144_3 q144_4 q144_5 q144_6 e144_0 e144_1 e144_2 e144_3 e144_4 e144_5 e144_6 e144_7 e144_8 e144_9)
          have Ks144 : rR s144 7 = rR σ 7 := by first | assumption | ((try simp only [rR_sF, rR_sA, rR_sT, rR_sL] at e144_0 e144_1 e144_2 e144_3 e144_4 e144_5 e144_6 e144_7 e144_8 e144_9); omega)
          have zr144 := fz_rng s144
          have zc144 : fz s144 = 0 → fz s138 = 0 := fun hf => by omega
          have A144 : Im (fz s144 = 0) (RG σ s144 (rR σ 7) 0) := fun hf => RG.trk hp_2 (A138 (zc144 hf)) (q144_5 (by omega)) (by omega)
          obtain ⟨g144, X144⟩ := q144_6
          have Ku14 : Im (fz s144 = 0) (GK g g144 (rF σ (rR σ 7) 7) (rF s144 (rR σ 7) 7) 0) := fun hf => GK.trans (Ku12 (zc144 hf)) ((X144 hf).2.1) (by omega)
          have Gu15 : Im (fz s144 = 0) (GS s144 (rR σ 7) g144) := fun hf => (X144 hf).1
          have O144 : Im (fz s144 = 0) _ := fun hf => OP.lo (O107u10 (zc144 hf)) ((X144 hf).2.1) ((X144 hf).2.2.1)
          have TPRp_144 := e144_0 TPRp_138; clear e144_0
          have CCp_144 := e144_1 CCp_138; clear e144_1
          obtain ⟨gu16, Xu17⟩ := EC_c (P := fz s144 = 0) (rF s144 0 29) hp_11 Gu15 O144 (fun hf => by omega)
          have O144u18 : Im (fz s144 = 0) _ := fun hf => (Xu17 hf).2.1
          have Ku19 : Im (fz s144 = 0) (GK g gu16 (rF σ (rR σ 7) 7) (rF s144 (rR σ 7) 7) 0) := fun hf => GK.kc (Ku14 hf) (Xu17 hf).2.2 (by omega)
          have Gu20 : Im (fz s144 = 0) _ := fun hf => (Xu17 hf).1
          exact (by (try simp only [post_X14_readCall, Ks144]); (all_goals (repeat' (first | with_reducible intro _ | with_reducible apply And.intro | with_reducible refine Exists.intro gu16 ?_ | with_reducible refine Im.and ?_ ?_))); all_goals (first | assumption | trivial | ((with_reducible refine Im.i fun hf_ => ?_); first | exact (A144 hf_) | exact (Gu20 hf_) | exact (Ku19 hf_) | exact (O144u18 hf_).cst | exact ok1.i | (exact LI.z (fun h => absurd h (by decide))) | (exact absurd hf_ (by omega)) | omega) | (unfold NBP; (try simp only [Ks144]); omega) | (unfold NBQ; (try simp only [Ks144]); omega) | omega | (exact fun hf_ => by rw [if_pos (show K = 36 by omega)]; exact (O144u18 (by omega)).cst) | (have zz_ := fz_z (by assumption); omega) | (split <;> omega) | done))
        · refine ⟨(by (try simp only [Ks107]); (all_goals (repeat' (first | with_reducible intro _ | with_reducible apply And.intro | with_reducible refine Exists.intro g107 ?_ | with_reducible refine Im.and ?_ ?_))); all_goals (first | assumption | trivial | ((with_reducible refine Im.i fun hf_ => ?_); first | exact (A107 hf_) | exact (Gu6 hf_) | exact (Ku5 hf_) | exact (O107 hf_).cst | exact (L107_2 hf_) | exact ok1.i | (exact LI.z (fun h => absurd h (by decide))) | (exact absurd hf_ (by omega)) | omega) | (unfold NBP; (try simp only [Ks107]); omega) | (unfold NBQ; (try simp only [Ks107]); omega) | omega | (have zz_ := fz_z (by assumption); omega) | (split <;> omega) | done)), ?_⟩
          have A130 : Im (fz s107 = 0) (RG σ (sT s107 (rR σ 7) 4 v107 1) (rR σ 7) 0) := fun hf => RG.tst (f := 4) (i := v107) (x := 1) hp_2 (A107 hf) (by decide) (by omega)
          have Gu21 : Im (fz s107 = 0) _ := fun hf => GS.c4 (z := 1) hp_2 (Gu6 hf) (O107 hf) (Or.inl (by omega))
          have O107u22 : Im (fz s107 = 0) _ := fun hf => OP.c4 (f := 4) (i := v107) (z := 1) (O107 hf)
          have L107_2u23 : Im (fz s107 = 0) _ := fun hf => LI.c4 (f2 := 4) (i := v107) (z := 1) hp_2 (by decide) (by decide) (L107_2 hf)
          refine ⟨(by (try simp only [pre_X14_check_t, reduceIte, and_true, true_and, and_false, false_and, and_self, Nat.reduceEqDiff, fz_sA, rF_sA, rA_sA, rR_sA, rF_sT, rR_sT, sT_sF, fz_sT, rA_sT26 hp_2, rA_sT27 hp_2, rA_sT34 hp_2, rA_sT35 hp_2, rA_sT36 hp_2, rA_sT37 hp_2, rA_sT40 hp_2, TPRp_sT hp_2, WNp_sT hp_2, VMp_sT hp_2, KYp_sT hp_2, PPp_sT hp_2, WFp_sT hp_2, CCp_sT hp_2, rNMp_sT4, PNp_sT4, rk_n0 hp_2, Ks107]); (all_goals (repeat' (first | with_reducible intro _ | with_reducible apply And.intro | with_reducible refine Exists.intro g107 ?_ | with_reducible refine Im.and ?_ ?_))); all_goals (first | assumption | trivial | ((with_reducible refine Im.i fun hf_ => ?_); first | exact (A130 hf_) | exact (Gu21 hf_) | exact (Ku5 hf_) | exact (O107u22 hf_).cst | exact (L107_2u23 hf_) | exact ok1.i | (exact LI.z (fun h => absurd h (by decide))) | (exact absurd hf_ (by omega)) | omega) | (unfold NBP; (try simp only [reduceIte, and_true, true_and, and_false, false_and, and_self, Nat.reduceEqDiff, fz_sA, rF_sA, rA_sA, rR_sA, rF_sT, rR_sT, sT_sF, fz_sT, rA_sT26 hp_2, rA_sT27 hp_2, rA_sT34 hp_2, rA_sT35 hp_2, rA_sT36 hp_2, rA_sT37 hp_2, rA_sT40 hp_2, TPRp_sT hp_2, WNp_sT hp_2, VMp_sT hp_2, KYp_sT hp_2, PPp_sT hp_2, WFp_sT hp_2, CCp_sT hp_2, rNMp_sT4, PNp_sT4, rk_n0 hp_2, Ks107]); omega) | (unfold NBQ; (try simp only [reduceIte, and_true, true_and, and_false, false_and, and_self, Nat.reduceEqDiff, fz_sA, rF_sA, rA_sA, rR_sA, rF_sT, rR_sT, sT_sF, fz_sT, rA_sT26 hp_2, rA_sT27 hp_2, rA_sT34 hp_2, rA_sT35 hp_2, rA_sT36 hp_2, rA_sT37 hp_2, rA_sT40 hp_2, TPRp_sT hp_2, WNp_sT hp_2, VMp_sT hp_2, KYp_sT hp_2, PPp_sT hp_2, WFp_sT hp_2, CCp_sT hp_2, rNMp_sT4, PNp_sT4, rk_n0 hp_2, Ks107]); omega) | omega | (have zz_ := fz_z (by assumption); omega) | (split <;> omega) | done)), ?_⟩
          intro s138 Ws138 e138_0 e138_1 e138_2 e138_3 e138_4 e138_5 e138_6 e138_7 e138_8 e138_9 e138_10 e138_11 e138_12 e138_13 e138_14 e138_15 e138_16 e138_17 e138_18 e138_19 e138_20 e138_21 e138_22 e138_23 q138
          unfold post_X14_check_t at q138
          obtain ⟨q138_1, q138_2, q138_3, q138_4, q138_5, q138_6⟩ := q138
          (try simp only [reduceIte, and_true, true_and, and_false, false_and, and_self, Nat.reduceEqDiff, fz_sA, rF_sA, rA_sA, rR_sA, rF_sT, rR_sT, sT_sF, fz_sT, rA_sT26 hp_2, rA_sT27 hp_2, rA_sT34 hp_2, rA_sT35 hp_2, rA_sT36 hp_2, rA_sT37 hp_2, rA_sT40 hp_2, TPRp_sT hp_2, WNp_sT hp_2, VMp_sT hp_2, KYp_sT hp_2, PPp_sT hp_2, WFp_sT hp_2, CCp_sT hp_2, rNMp_sT4, PNp_sT4, rk_n0 hp_2, Ks107, NBP, NBQ] at q138_1 q138_2 q138_3 q138_4 q138_5 q138_6 e138_0 e138_1 e138_2 e138_3 e138_4 e138_5 e138_6 e138_7 e138_8 e138_9 e138_10 e138_11 e138_12 e138_13 e138_14 e138_15 e138_16 e138_17 e138_18 e138_19 e138_20 e138_21 e138_22 e138_23)
          have Ks138 : rR s138 7 = rR σ 7 := by first | assumption | ((try simp only [rR_sF, rR_sA, rR_sT, rR_sL] at e138_0 e138_1 e138_2 e138_3 e138_4 e138_5 e138_6 e138_7 e138_8 e138_9 e138_10 e138_11 e138_12 e138_13 e138_14 e138_15 e138_16 e138_17 e138_18 e138_19 e138_20 e138_21 e138_22 e138_23); omega)
          have zr138 := fz_rng s138
          have zc138 : fz s138 = 0 → fz s107 = 0 := fun hf => by omega
          have A138 : Im (fz s138 = 0) (RG σ s138 (rR σ 7) 0) := fun hf => RG.trk hp_2 (A130 (zc138 hf)) q138_2 (Or.inr (Or.inl rfl))
          have O107u24 : Im (fz s138 = 0) _ := fun hf => OP.gk0 (O107u22 (zc138 hf)) (GK.up (g := g107) (N := rF (sT s107 (rR σ 7) 4 v107 1) (rR σ 7) 7) (N' := rF s138 (rR σ 7) 7) (c := 0) (by first | assumption | omega | (simp only [rF_sT, rF_sA]; omega)))
          have L107_2u25 : Im (fz s138 = 0) _ := fun hf => LI.gk0 hp_2 (L107_2u23 (zc138 hf)) (O107u22 (zc138 hf)) q138_2 (GK.up (g := g107) (N := rF (sT s107 (rR σ 7) 4 v107 1) (rR σ 7) 7) (N' := rF s138 (rR σ 7) 7) (c := 0) (by first | assumption | omega | (simp only [rF_sT, rF_sA]; omega)))
          have Ku26 : Im (fz s138 = 0) (GK g g107 (rF σ (rR σ 7) 7) (rF s138 (rR σ 7) 7) 0) := fun hf => GK.trans (Ku5 (zc138 hf)) (GK.up (N := rF (sT s107 (rR σ 7) 4 v107 1) (rR σ 7) 7) (N' := rF s138 (rR σ 7) 7) (c := 0) (by first | assumption | omega | (simp only [rF_sT, rF_sA]; omega))) (Or.inr (Or.inl rfl))
          have Gu27 : Im (fz s138 = 0) (GS s138 (rR σ 7) g107) := fun hf => GS.mv hp_2 (Gu21 (zc138 hf)) q138_2 (by first | assumption | omega | (simp only [rF_sT, rF_sA]; omega)) (by first | (exact Int.le_of_eq (Eq.symm (by assumption))) | omega | (simp only [rF_sT, rF_sA]; omega))
          have rNMp_138 := e138_0 rNMp_107; clear e138_0
          have TPRp_138 := e138_1 TPRp_107; clear e138_1
          have WNp_138 := e138_2 WNp_107; clear e138_2
          have PNp_138 := e138_3 q107_10; clear e138_3
          have CCp_138 := e138_4 CCp_107; clear e138_4
          refine ⟨g107, ?_⟩
          refine ⟨K, ?_⟩
          refine ⟨(by (try simp only [pre_X14_readArgs, Ks138]); (all_goals (repeat' (first | with_reducible intro _ | with_reducible apply And.intro | with_reducible refine Exists.intro g107 ?_ | with_reducible refine Im.and ?_ ?_))); all_goals (first | assumption | trivial | ((with_reducible refine Im.i fun hf_ => ?_); first | exact (A138 hf_) | exact (Gu27 hf_) | exact (Ku26 hf_) | exact (O107u24 hf_).cst | exact (L107_2u25 hf_) | exact ok1.i | (exact LI.z (fun h => absurd h (by decide))) | (exact absurd hf_ (by omega)) | omega) | (unfold NBP; (try simp only [Ks138]); omega) | (unfold NBQ; (try simp only [Ks138]); omega) | omega | (have zz_ := fz_z (by assumption); omega) | (split <;> omega) | done)), ?_⟩
          refine ⟨(by (try simp only [rk_X14_readArgs, Ks138]); (all_goals (repeat' (first | with_reducible intro _ | with_reducible apply And.intro | with_reducible refine Exists.intro g107 ?_ | with_reducible refine Im.and ?_ ?_))); all_goals (first | assumption | trivial | ((with_reducible refine Im.i fun hf_ => ?_); first | exact (A138 hf_) | exact (Gu27 hf_) | exact (Ku26 hf_) | exact (O107u24 hf_).cst | exact (L107_2u25 hf_) | exact ok1.i | (exact LI.z (fun h => absurd h (by decide))) | (exact absurd hf_ (by omega)) | omega) | (unfold NBP; (try simp only [Ks138]); omega) | (unfold NBQ; (try simp only [Ks138]); omega) | omega | (have zz_ := fz_z (by assumption); omega) | (split <;> omega) | done)), ?_⟩
          intro s144 Ws144 e144_0 e144_1 e144_2 e144_3 e144_4 e144_5 e144_6 e144_7 e144_8 e144_9 q144
          unfold post_X14_readArgs at q144
          obtain ⟨q144_1, q144_2, q144_3, q144_4, q144_5, q144_6⟩ := q144
          (try simp only [Ks138, NBP, NBQ] at q144_1 q144_2 q144_3 q144_4 q144_5 q144_6 e144_0 e144_1 e144_2 e144_3 e144_4 e144_5 e144_6 e144_7 e144_8 e144_9)
          have Ks144 : rR s144 7 = rR σ 7 := by first | assumption | ((try simp only [rR_sF, rR_sA, rR_sT, rR_sL] at e144_0 e144_1 e144_2 e144_3 e144_4 e144_5 e144_6 e144_7 e144_8 e144_9); omega)
          have zr144 := fz_rng s144
          have zc144 : fz s144 = 0 → fz s138 = 0 := fun hf => by omega
          have A144 : Im (fz s144 = 0) (RG σ s144 (rR σ 7) 0) := fun hf => RG.trk hp_2 (A138 (zc144 hf)) (q144_5 (by omega)) (by omega)
          obtain ⟨g144, X144⟩ := q144_6
          have Ku28 : Im (fz s144 = 0) (GK g g144 (rF σ (rR σ 7) 7) (rF s144 (rR σ 7) 7) 0) := fun hf => GK.trans (Ku26 (zc144 hf)) ((X144 hf).2.1) (by omega)
          have Gu29 : Im (fz s144 = 0) (GS s144 (rR σ 7) g144) := fun hf => (X144 hf).1
          have O144 : Im (fz s144 = 0) _ := fun hf => OP.lo (O107u24 (zc144 hf)) ((X144 hf).2.1) ((X144 hf).2.2.1)
          have TPRp_144 := e144_0 TPRp_138; clear e144_0
          have CCp_144 := e144_1 CCp_138; clear e144_1
          obtain ⟨gu30, Xu31⟩ := EC_c (P := fz s144 = 0) (rF s144 0 29) hp_11 Gu29 O144 (fun hf => by omega)
          have O144u32 : Im (fz s144 = 0) _ := fun hf => (Xu31 hf).2.1
          have Ku33 : Im (fz s144 = 0) (GK g gu30 (rF σ (rR σ 7) 7) (rF s144 (rR σ 7) 7) 0) := fun hf => GK.kc (Ku28 hf) (Xu31 hf).2.2 (by omega)
          have Gu34 : Im (fz s144 = 0) _ := fun hf => (Xu31 hf).1
          exact (by (try simp only [post_X14_readCall, Ks144]); (all_goals (repeat' (first | with_reducible intro _ | with_reducible apply And.intro | with_reducible refine Exists.intro gu30 ?_ | with_reducible refine Im.and ?_ ?_))); all_goals (first | assumption | trivial | ((with_reducible refine Im.i fun hf_ => ?_); first | exact (A144 hf_) | exact (Gu34 hf_) | exact (Ku33 hf_) | exact (O144u32 hf_).cst | exact ok1.i | (exact LI.z (fun h => absurd h (by decide))) | (exact absurd hf_ (by omega)) | omega) | (unfold NBP; (try simp only [Ks144]); omega) | (unfold NBQ; (try simp only [Ks144]); omega) | omega | (exact fun hf_ => by rw [if_pos (show K = 36 by omega)]; exact (O144u32 (by omega)).cst) | (have zz_ := fz_z (by assumption); omega) | (split <;> omega) | done))
      · refine ⟨fun c60 => ?_, fun c60 => ?_⟩
        · refine ⟨(by (try simp only [pre_X14_place, Ks47]); (all_goals (repeat' (first | with_reducible intro _ | with_reducible apply And.intro | with_reducible refine Exists.intro g ?_ | with_reducible refine Im.and ?_ ?_))); all_goals (first | assumption | trivial | ((with_reducible refine Im.i fun hf_ => ?_); first | exact (A47 hf_) | exact (Gu4 hf_) | exact (Ku3 hf_) | exact ok1.i | (exact LI.z (fun h => absurd h (by decide))) | (exact absurd hf_ (by omega)) | omega) | (unfold NBP; (try simp only [Ks47]); omega) | (unfold NBQ; (try simp only [Ks47]); omega) | omega | (have zz_ := fz_z (by assumption); omega) | (split <;> omega) | done)), ?_⟩
          intro v72 hv72 q72
          unfold rng at hv72
          unfold post_X14_place at q72
          obtain ⟨q72_1, q72_2⟩ := q72
          (try simp only [Ks47, NBP, NBQ] at q72_1 q72_2)
          refine ⟨(by (try simp only [pre_X14_bad, Ks47]); (all_goals (repeat' (first | with_reducible intro _ | with_reducible apply And.intro | with_reducible refine Exists.intro g ?_ | with_reducible refine Im.and ?_ ?_))); all_goals (first | assumption | trivial | ((with_reducible refine Im.i fun hf_ => ?_); first | exact (A47 hf_) | exact (Gu4 hf_) | exact (Ku3 hf_) | exact ok1.i | (exact LI.z (fun h => absurd h (by decide))) | (exact absurd hf_ (by omega)) | omega) | (unfold NBP; (try simp only [Ks47]); omega) | (unfold NBQ; (try simp only [Ks47]); omega) | omega | (have zz_ := fz_z (by assumption); omega) | (split <;> omega) | done)), ?_⟩
          intro s75 Ws75 e75_0 e75_1 e75_2 e75_3 e75_4 e75_5 e75_6 e75_7 e75_8 e75_9 e75_10 e75_11 e75_12 e75_13 e75_14 e75_15 e75_16 e75_17 e75_18 e75_19 e75_20 e75_21 e75_22 e75_23 e75_24 e75_25 R75 q75
          have q75 := dig_bad q75 (by (try simp only [Ks47]); omega)
          obtain ⟨q75_1, q75_2⟩ := q75
          (try simp only [Ks47, NBP, NBQ] at q75_1 q75_2 e75_0 e75_1 e75_2 e75_3 e75_4 e75_5 e75_6 e75_7 e75_8 e75_9 e75_10 e75_11 e75_12 e75_13 e75_14 e75_15 e75_16 e75_17 e75_18 e75_19 e75_20 e75_21 e75_22 e75_23 e75_24 e75_25 R75)
          have Ks75 : rR s75 7 = rR σ 7 := by first | assumption | ((try simp only [rR_sF, rR_sA, rR_sT, rR_sL] at e75_0 e75_1 e75_2 e75_3 e75_4 e75_5 e75_6 e75_7 e75_8 e75_9 e75_10 e75_11 e75_12 e75_13 e75_14 e75_15 e75_16 e75_17 e75_18 e75_19 e75_20 e75_21 e75_22 e75_23 e75_24 e75_25 R75); omega)
          have zr75 := fz_rng s75
          have zc75 : fz s75 = 0 → fz s47 = 0 := fun hf => by omega
          have A75 : Im (fz s75 = 0) (RG σ s75 (rR σ 7) 0) := fun hf => RG.trk hp_2 (A47 (zc75 hf)) R75 (Or.inr (Or.inl rfl))
          have Ku35 : Im (fz s75 = 0) (GK g g (rF σ (rR σ 7) 7) (rF s75 (rR σ 7) 7) 0) := fun hf => GK.trans (Ku3 (zc75 hf)) (GK.up (N := rF s47 (rR σ 7) 7) (N' := rF s75 (rR σ 7) 7) (c := 0) (by first | assumption | omega | (simp only [rF_sT, rF_sA]; omega))) (Or.inr (Or.inl rfl))
          have Gu36 : Im (fz s75 = 0) (GS s75 (rR σ 7) g) := fun hf => GS.mv hp_2 (Gu4 (zc75 hf)) R75 (by first | assumption | omega | (simp only [rF_sT, rF_sA]; omega)) (by first | (exact Int.le_of_eq (Eq.symm (by assumption))) | omega | (simp only [rF_sT, rF_sA]; omega))
          have rNMp_75 := e75_0 rNMp_47; clear e75_0
          have TPRp_75 := e75_1 TPRp_47; clear e75_1
          have WNp_75 := e75_2 WNp_47; clear e75_2
          have PNp_75 := e75_3 PNp_47; clear e75_3
          have CCp_75 := e75_4 CCp_47; clear e75_4
          refine ⟨(by (try simp only [pre_X14_node_t, Ks75]); (all_goals (repeat' (first | with_reducible intro _ | with_reducible apply And.intro | with_reducible refine Exists.intro g ?_ | with_reducible refine Im.and ?_ ?_))); all_goals (first | assumption | trivial | ((with_reducible refine Im.i fun hf_ => ?_); first | exact (A75 hf_) | exact (Gu36 hf_) | exact (Ku35 hf_) | exact ok1.i | (exact LI.z (fun h => absurd h (by decide))) | (exact absurd hf_ (by omega)) | omega) | (unfold NBP; (try simp only [Ks75]); omega) | (unfold NBQ; (try simp only [Ks75]); omega) | omega | (have zz_ := fz_z (by assumption); omega) | (split <;> omega) | done)), ?_⟩
          intro v86 s86 hv86 Ws86 e86_0 e86_1 e86_2 e86_3 e86_4 e86_5 e86_6 e86_7 e86_8 e86_9 e86_10 e86_11 e86_12 e86_13 e86_14 e86_15 e86_16 e86_17 e86_18 e86_19 e86_20 e86_21 e86_22 e86_23 e86_24 e86_25 q86
          unfold rng at hv86
          unfold post_X14_node_t at q86
          obtain ⟨q86_1, q86_2, q86_3, q86_4, q86_5, q86_6, q86_7, q86_8, q86_9, q86_10⟩ := q86
          (try simp only [Ks75, NBP, NBQ] at q86_1 q86_2 q86_3 q86_4 q86_5 q86_6 q86_7 q86_8 q86_9 q86_10 e86_0 e86_1 e86_2 e86_3 e86_4 e86_5 e86_6 e86_7 e86_8 e86_9 e86_10 e86_11 e86_12 e86_13 e86_14 e86_15 e86_16 e86_17 e86_18 e86_19 e86_20 e86_21 e86_22 e86_23 e86_24 e86_25)
          have Ks86 : rR s86 7 = rR σ 7 := by first | assumption | ((try simp only [rR_sF, rR_sA, rR_sT, rR_sL] at e86_0 e86_1 e86_2 e86_3 e86_4 e86_5 e86_6 e86_7 e86_8 e86_9 e86_10 e86_11 e86_12 e86_13 e86_14 e86_15 e86_16 e86_17 e86_18 e86_19 e86_20 e86_21 e86_22 e86_23 e86_24 e86_25); omega)
          have zr86 := fz_rng s86
          have zc86 : fz s86 = 0 → fz s75 = 0 := fun hf => by omega
          have A86 : Im (fz s86 = 0) (RG σ s86 (rR σ 7) 0) := fun hf => RG.trk hp_2 (A75 (zc86 hf)) q86_3 (Or.inr (Or.inl rfl))
          obtain ⟨g86, X86⟩ := EN_35 (P := fz s86 = 0) (rF s47 0 29) (rF σ 0 31) hp_2 (fun hf => Gu36 (zc86 hf)) (fun hf => q86_3) q86_1 q86_2 q86_4 q86_5 q86_6 q86_9 (fun hf => by (try simp only [rF_sT, rF_sA]); (repeat' (with_reducible apply And.intro)) <;> first | trivial | omega)
          have Ku37 : Im (fz s86 = 0) (GK g g86 (rF σ (rR σ 7) 7) (rF s86 (rR σ 7) 7) 0) := fun hf => GK.gs (Ku35 (zc86 hf)) (X86 hf).2.1
          have Gu38 : Im (fz s86 = 0) _ := fun hf => (X86 hf).1
          have O86 : Im (fz s86 = 0) _ := fun hf => (X86 hf).2.2.1
          have rNMp_86 := e86_0 rNMp_75; clear e86_0
          have TPRp_86 := e86_1 TPRp_75; clear e86_1
          have WNp_86 := e86_2 WNp_75; clear e86_2
          have CCp_86 := e86_3 CCp_75; clear e86_3
          obtain ⟨gu39, Xu40⟩ := EC_35 (P := fz s86 = 0) (rF s47 0 29) Gu38 O86 (fun hf => by omega)
          have O86u41 : Im (fz s86 = 0) _ := fun hf => (Xu40 hf).2.1
          have Ku42 : Im (fz s86 = 0) (GK g gu39 (rF σ (rR σ 7) 7) (rF s86 (rR σ 7) 7) 0) := fun hf => GK.kc (Ku37 hf) (Xu40 hf).2.2 (by omega)
          have Gu43 : Im (fz s86 = 0) _ := fun hf => (Xu40 hf).1
          exact (by (try simp only [post_X14_readCall, Ks86]); (all_goals (repeat' (first | with_reducible intro _ | with_reducible apply And.intro | with_reducible refine Exists.intro gu39 ?_ | with_reducible refine Im.and ?_ ?_))); all_goals (first | assumption | trivial | ((with_reducible refine Im.i fun hf_ => ?_); first | exact (A86 hf_) | exact (Gu43 hf_) | exact (Ku42 hf_) | exact (O86u41 hf_).cst | exact ok1.i | (exact LI.z (fun h => absurd h (by decide))) | (exact absurd hf_ (by omega)) | omega) | (unfold NBP; (try simp only [Ks86]); omega) | (unfold NBQ; (try simp only [Ks86]); omega) | omega | (exact fun hf_ => by rw [if_pos (show K = 36 by omega)]; exact (O86u41 (by omega)).cst) | (have zz_ := fz_z (by assumption); omega) | (split <;> omega) | done))
        · refine ⟨fun c66 => ?_, fun c66 => ?_⟩
          · refine ⟨(by (try simp only [pre_X14_node_t, Ks47]); (all_goals (repeat' (first | with_reducible intro _ | with_reducible apply And.intro | with_reducible refine Exists.intro g ?_ | with_reducible refine Im.and ?_ ?_))); all_goals (first | assumption | trivial | ((with_reducible refine Im.i fun hf_ => ?_); first | exact (A47 hf_) | exact (Gu4 hf_) | exact (Ku3 hf_) | exact ok1.i | (exact LI.z (fun h => absurd h (by decide))) | (exact absurd hf_ (by omega)) | omega) | (unfold NBP; (try simp only [Ks47]); omega) | (unfold NBQ; (try simp only [Ks47]); omega) | omega | (have zz_ := fz_z (by assumption); omega) | (split <;> omega) | done)), ?_⟩
            intro v86 s86 hv86 Ws86 e86_0 e86_1 e86_2 e86_3 e86_4 e86_5 e86_6 e86_7 e86_8 e86_9 e86_10 e86_11 e86_12 e86_13 e86_14 e86_15 e86_16 e86_17 e86_18 e86_19 e86_20 e86_21 e86_22 e86_23 e86_24 e86_25 q86
            unfold rng at hv86
            unfold post_X14_node_t at q86
            obtain ⟨q86_1, q86_2, q86_3, q86_4, q86_5, q86_6, q86_7, q86_8, q86_9, q86_10⟩ := q86
            (try simp only [Ks47, NBP, NBQ] at q86_1 q86_2 q86_3 q86_4 q86_5 q86_6 q86_7 q86_8 q86_9 q86_10 e86_0 e86_1 e86_2 e86_3 e86_4 e86_5 e86_6 e86_7 e86_8 e86_9 e86_10 e86_11 e86_12 e86_13 e86_14 e86_15 e86_16 e86_17 e86_18 e86_19 e86_20 e86_21 e86_22 e86_23 e86_24 e86_25)
            have Ks86 : rR s86 7 = rR σ 7 := by first | assumption | ((try simp only [rR_sF, rR_sA, rR_sT, rR_sL] at e86_0 e86_1 e86_2 e86_3 e86_4 e86_5 e86_6 e86_7 e86_8 e86_9 e86_10 e86_11 e86_12 e86_13 e86_14 e86_15 e86_16 e86_17 e86_18 e86_19 e86_20 e86_21 e86_22 e86_23 e86_24 e86_25); omega)
            have zr86 := fz_rng s86
            have zc86 : fz s86 = 0 → fz s47 = 0 := fun hf => by omega
            have A86 : Im (fz s86 = 0) (RG σ s86 (rR σ 7) 0) := fun hf => RG.trk hp_2 (A47 (zc86 hf)) q86_3 (Or.inr (Or.inl rfl))
            obtain ⟨g86, X86⟩ := EN_35 (P := fz s86 = 0) (rF s47 0 29) (rF σ 0 31) hp_2 (fun hf => Gu4 (zc86 hf)) (fun hf => q86_3) q86_1 q86_2 q86_4 q86_5 q86_6 q86_9 (fun hf => by (try simp only [rF_sT, rF_sA]); (repeat' (with_reducible apply And.intro)) <;> first | trivial | omega)
            have Ku44 : Im (fz s86 = 0) (GK g g86 (rF σ (rR σ 7) 7) (rF s86 (rR σ 7) 7) 0) := fun hf => GK.gs (Ku3 (zc86 hf)) (X86 hf).2.1
            have Gu45 : Im (fz s86 = 0) _ := fun hf => (X86 hf).1
            have O86 : Im (fz s86 = 0) _ := fun hf => (X86 hf).2.2.1
            have rNMp_86 := e86_0 rNMp_47; clear e86_0
            have TPRp_86 := e86_1 TPRp_47; clear e86_1
            have WNp_86 := e86_2 WNp_47; clear e86_2
            have CCp_86 := e86_3 CCp_47; clear e86_3
            obtain ⟨gu46, Xu47⟩ := EC_35 (P := fz s86 = 0) (rF s47 0 29) Gu45 O86 (fun hf => by omega)
            have O86u48 : Im (fz s86 = 0) _ := fun hf => (Xu47 hf).2.1
            have Ku49 : Im (fz s86 = 0) (GK g gu46 (rF σ (rR σ 7) 7) (rF s86 (rR σ 7) 7) 0) := fun hf => GK.kc (Ku44 hf) (Xu47 hf).2.2 (by omega)
            have Gu50 : Im (fz s86 = 0) _ := fun hf => (Xu47 hf).1
            exact (by (try simp only [post_X14_readCall, Ks86]); (all_goals (repeat' (first | with_reducible intro _ | with_reducible apply And.intro | with_reducible refine Exists.intro gu46 ?_ | with_reducible refine Im.and ?_ ?_))); all_goals (first | assumption | trivial | ((with_reducible refine Im.i fun hf_ => ?_); first | exact (A86 hf_) | exact (Gu50 hf_) | exact (Ku49 hf_) | exact (O86u48 hf_).cst | exact ok1.i | (exact LI.z (fun h => absurd h (by decide))) | (exact absurd hf_ (by omega)) | omega) | (unfold NBP; (try simp only [Ks86]); omega) | (unfold NBQ; (try simp only [Ks86]); omega) | omega | (exact fun hf_ => by rw [if_pos (show K = 36 by omega)]; exact (O86u48 (by omega)).cst) | (have zz_ := fz_z (by assumption); omega) | (split <;> omega) | done))
          · refine ⟨(by (try simp only [pre_X14_place, Ks47]); (all_goals (repeat' (first | with_reducible intro _ | with_reducible apply And.intro | with_reducible refine Exists.intro g ?_ | with_reducible refine Im.and ?_ ?_))); all_goals (first | assumption | trivial | ((with_reducible refine Im.i fun hf_ => ?_); first | exact (A47 hf_) | exact (Gu4 hf_) | exact (Ku3 hf_) | exact ok1.i | (exact LI.z (fun h => absurd h (by decide))) | (exact absurd hf_ (by omega)) | omega) | (unfold NBP; (try simp only [Ks47]); omega) | (unfold NBQ; (try simp only [Ks47]); omega) | omega | (have zz_ := fz_z (by assumption); omega) | (split <;> omega) | done)), ?_⟩
            intro v72 hv72 q72
            unfold rng at hv72
            unfold post_X14_place at q72
            obtain ⟨q72_1, q72_2⟩ := q72
            (try simp only [Ks47, NBP, NBQ] at q72_1 q72_2)
            refine ⟨(by (try simp only [pre_X14_bad, Ks47]); (all_goals (repeat' (first | with_reducible intro _ | with_reducible apply And.intro | with_reducible refine Exists.intro g ?_ | with_reducible refine Im.and ?_ ?_))); all_goals (first | assumption | trivial | ((with_reducible refine Im.i fun hf_ => ?_); first | exact (A47 hf_) | exact (Gu4 hf_) | exact (Ku3 hf_) | exact ok1.i | (exact LI.z (fun h => absurd h (by decide))) | (exact absurd hf_ (by omega)) | omega) | (unfold NBP; (try simp only [Ks47]); omega) | (unfold NBQ; (try simp only [Ks47]); omega) | omega | (have zz_ := fz_z (by assumption); omega) | (split <;> omega) | done)), ?_⟩
            intro s75 Ws75 e75_0 e75_1 e75_2 e75_3 e75_4 e75_5 e75_6 e75_7 e75_8 e75_9 e75_10 e75_11 e75_12 e75_13 e75_14 e75_15 e75_16 e75_17 e75_18 e75_19 e75_20 e75_21 e75_22 e75_23 e75_24 e75_25 R75 q75
            have q75 := dig_bad q75 (by (try simp only [Ks47]); omega)
            obtain ⟨q75_1, q75_2⟩ := q75
            (try simp only [Ks47, NBP, NBQ] at q75_1 q75_2 e75_0 e75_1 e75_2 e75_3 e75_4 e75_5 e75_6 e75_7 e75_8 e75_9 e75_10 e75_11 e75_12 e75_13 e75_14 e75_15 e75_16 e75_17 e75_18 e75_19 e75_20 e75_21 e75_22 e75_23 e75_24 e75_25 R75)
            have Ks75 : rR s75 7 = rR σ 7 := by first | assumption | ((try simp only [rR_sF, rR_sA, rR_sT, rR_sL] at e75_0 e75_1 e75_2 e75_3 e75_4 e75_5 e75_6 e75_7 e75_8 e75_9 e75_10 e75_11 e75_12 e75_13 e75_14 e75_15 e75_16 e75_17 e75_18 e75_19 e75_20 e75_21 e75_22 e75_23 e75_24 e75_25 R75); omega)
            have zr75 := fz_rng s75
            have zc75 : fz s75 = 0 → fz s47 = 0 := fun hf => by omega
            have A75 : Im (fz s75 = 0) (RG σ s75 (rR σ 7) 0) := fun hf => RG.trk hp_2 (A47 (zc75 hf)) R75 (Or.inr (Or.inl rfl))
            have Ku51 : Im (fz s75 = 0) (GK g g (rF σ (rR σ 7) 7) (rF s75 (rR σ 7) 7) 0) := fun hf => GK.trans (Ku3 (zc75 hf)) (GK.up (N := rF s47 (rR σ 7) 7) (N' := rF s75 (rR σ 7) 7) (c := 0) (by first | assumption | omega | (simp only [rF_sT, rF_sA]; omega))) (Or.inr (Or.inl rfl))
            have Gu52 : Im (fz s75 = 0) (GS s75 (rR σ 7) g) := fun hf => GS.mv hp_2 (Gu4 (zc75 hf)) R75 (by first | assumption | omega | (simp only [rF_sT, rF_sA]; omega)) (by first | (exact Int.le_of_eq (Eq.symm (by assumption))) | omega | (simp only [rF_sT, rF_sA]; omega))
            have rNMp_75 := e75_0 rNMp_47; clear e75_0
            have TPRp_75 := e75_1 TPRp_47; clear e75_1
            have WNp_75 := e75_2 WNp_47; clear e75_2
            have PNp_75 := e75_3 PNp_47; clear e75_3
            have CCp_75 := e75_4 CCp_47; clear e75_4
            refine ⟨(by (try simp only [pre_X14_node_t, Ks75]); (all_goals (repeat' (first | with_reducible intro _ | with_reducible apply And.intro | with_reducible refine Exists.intro g ?_ | with_reducible refine Im.and ?_ ?_))); all_goals (first | assumption | trivial | ((with_reducible refine Im.i fun hf_ => ?_); first | exact (A75 hf_) | exact (Gu52 hf_) | exact (Ku51 hf_) | exact ok1.i | (exact LI.z (fun h => absurd h (by decide))) | (exact absurd hf_ (by omega)) | omega) | (unfold NBP; (try simp only [Ks75]); omega) | (unfold NBQ; (try simp only [Ks75]); omega) | omega | (have zz_ := fz_z (by assumption); omega) | (split <;> omega) | done)), ?_⟩
            intro v86 s86 hv86 Ws86 e86_0 e86_1 e86_2 e86_3 e86_4 e86_5 e86_6 e86_7 e86_8 e86_9 e86_10 e86_11 e86_12 e86_13 e86_14 e86_15 e86_16 e86_17 e86_18 e86_19 e86_20 e86_21 e86_22 e86_23 e86_24 e86_25 q86
            unfold rng at hv86
            unfold post_X14_node_t at q86
            obtain ⟨q86_1, q86_2, q86_3, q86_4, q86_5, q86_6, q86_7, q86_8, q86_9, q86_10⟩ := q86
            (try simp only [Ks75, NBP, NBQ] at q86_1 q86_2 q86_3 q86_4 q86_5 q86_6 q86_7 q86_8 q86_9 q86_10 e86_0 e86_1 e86_2 e86_3 e86_4 e86_5 e86_6 e86_7 e86_8 e86_9 e86_10 e86_11 e86_12 e86_13 e86_14 e86_15 e86_16 e86_17 e86_18 e86_19 e86_20 e86_21 e86_22 e86_23 e86_24 e86_25)
            have Ks86 : rR s86 7 = rR σ 7 := by first | assumption | ((try simp only [rR_sF, rR_sA, rR_sT, rR_sL] at e86_0 e86_1 e86_2 e86_3 e86_4 e86_5 e86_6 e86_7 e86_8 e86_9 e86_10 e86_11 e86_12 e86_13 e86_14 e86_15 e86_16 e86_17 e86_18 e86_19 e86_20 e86_21 e86_22 e86_23 e86_24 e86_25); omega)
            have zr86 := fz_rng s86
            have zc86 : fz s86 = 0 → fz s75 = 0 := fun hf => by omega
            have A86 : Im (fz s86 = 0) (RG σ s86 (rR σ 7) 0) := fun hf => RG.trk hp_2 (A75 (zc86 hf)) q86_3 (Or.inr (Or.inl rfl))
            obtain ⟨g86, X86⟩ := EN_35 (P := fz s86 = 0) (rF s47 0 29) (rF σ 0 31) hp_2 (fun hf => Gu52 (zc86 hf)) (fun hf => q86_3) q86_1 q86_2 q86_4 q86_5 q86_6 q86_9 (fun hf => by (try simp only [rF_sT, rF_sA]); (repeat' (with_reducible apply And.intro)) <;> first | trivial | omega)
            have Ku53 : Im (fz s86 = 0) (GK g g86 (rF σ (rR σ 7) 7) (rF s86 (rR σ 7) 7) 0) := fun hf => GK.gs (Ku51 (zc86 hf)) (X86 hf).2.1
            have Gu54 : Im (fz s86 = 0) _ := fun hf => (X86 hf).1
            have O86 : Im (fz s86 = 0) _ := fun hf => (X86 hf).2.2.1
            have rNMp_86 := e86_0 rNMp_75; clear e86_0
            have TPRp_86 := e86_1 TPRp_75; clear e86_1
            have WNp_86 := e86_2 WNp_75; clear e86_2
            have CCp_86 := e86_3 CCp_75; clear e86_3
            obtain ⟨gu55, Xu56⟩ := EC_35 (P := fz s86 = 0) (rF s47 0 29) Gu54 O86 (fun hf => by omega)
            have O86u57 : Im (fz s86 = 0) _ := fun hf => (Xu56 hf).2.1
            have Ku58 : Im (fz s86 = 0) (GK g gu55 (rF σ (rR σ 7) 7) (rF s86 (rR σ 7) 7) 0) := fun hf => GK.kc (Ku53 hf) (Xu56 hf).2.2 (by omega)
            have Gu59 : Im (fz s86 = 0) _ := fun hf => (Xu56 hf).1
            exact (by (try simp only [post_X14_readCall, Ks86]); (all_goals (repeat' (first | with_reducible intro _ | with_reducible apply And.intro | with_reducible refine Exists.intro gu55 ?_ | with_reducible refine Im.and ?_ ?_))); all_goals (first | assumption | trivial | ((with_reducible refine Im.i fun hf_ => ?_); first | exact (A86 hf_) | exact (Gu59 hf_) | exact (Ku58 hf_) | exact (O86u57 hf_).cst | exact ok1.i | (exact LI.z (fun h => absurd h (by decide))) | (exact absurd hf_ (by omega)) | omega) | (unfold NBP; (try simp only [Ks86]); omega) | (unfold NBQ; (try simp only [Ks86]); omega) | omega | (exact fun hf_ => by rw [if_pos (show K = 36 by omega)]; exact (O86u57 (by omega)).cst) | (have zz_ := fz_z (by assumption); omega) | (split <;> omega) | done))
    · have z35 := fz_n c35
      exact (by (try simp only [post_X14_readCall, Ks26]); (all_goals (repeat' (first | with_reducible intro _ | with_reducible apply And.intro | with_reducible refine Exists.intro g ?_ | with_reducible refine Im.and ?_ ?_))); all_goals (first | assumption | trivial | ((with_reducible refine Im.i fun hf_ => ?_); first | exact (A26 hf_) | exact (Gu2 hf_) | exact (Ku1 hf_) | exact ok1.i | (exact LI.z (fun h => absurd h (by decide))) | (exact absurd hf_ (by omega)) | omega) | (unfold NBP; (try simp only [Ks26]); omega) | (unfold NBQ; (try simp only [Ks26]); omega) | omega | (have zz_ := fz_z (by assumption); omega) | (split <;> omega) | done))
  · intro hr_; unfold rng at hr_
    refine ⟨(by (try simp only [rng]); (all_goals (repeat' (first | with_reducible intro _ | with_reducible apply And.intro | with_reducible refine Exists.intro g ?_ | with_reducible refine Im.and ?_ ?_))); all_goals (first | assumption | trivial | ((with_reducible refine Im.i fun hf_ => ?_); first | exact ((fun _ => RG.rf) hf_) | exact (hp_8 hf_) | exact ((fun _ => GK.rf) hf_) | exact ok1.i | (exact LI.z (fun h => absurd h (by decide))) | (exact absurd hf_ (by omega)) | omega) | (unfold NBP; omega) | (unfold NBQ; omega) | omega | (have zz_ := fz_z (by assumption); omega) | (split <;> omega) | done)), ?_⟩
    refine ⟨(by (try simp only [pre_X14_need, reduceIte, and_true, true_and, and_false, false_and, and_self, Nat.reduceEqDiff, fz_sF29, rF_sF, rA_sF, rR_sF, tr_sF, rNMp_sF, PNp_sF, GS_F29, OP_F29, NR_F29, LI_F29, RG_l29, RG_r29, TPRp_sF29, WNp_sF29, VMp_sF29, KYp_sF29, PPp_sF29, WFp_sF29, CCp_sF29, rk_n0 hp_2]); (all_goals (repeat' (first | with_reducible intro _ | with_reducible apply And.intro | with_reducible refine Exists.intro g ?_ | with_reducible refine Im.and ?_ ?_))); all_goals (first | assumption | trivial | ((with_reducible refine Im.i fun hf_ => ?_); first | exact ((fun _ => RG.rf) hf_) | exact (hp_8 hf_) | exact ((fun _ => GK.rf) hf_) | exact ok1.i | (exact LI.z (fun h => absurd h (by decide))) | (exact absurd hf_ (by omega)) | omega) | (unfold NBP; (try simp only [reduceIte, and_true, true_and, and_false, false_and, and_self, Nat.reduceEqDiff, fz_sF29, rF_sF, rA_sF, rR_sF, tr_sF, rNMp_sF, PNp_sF, GS_F29, OP_F29, NR_F29, LI_F29, RG_l29, RG_r29, TPRp_sF29, WNp_sF29, VMp_sF29, KYp_sF29, PPp_sF29, WFp_sF29, CCp_sF29, rk_n0 hp_2]); omega) | (unfold NBQ; (try simp only [reduceIte, and_true, true_and, and_false, false_and, and_self, Nat.reduceEqDiff, fz_sF29, rF_sF, rA_sF, rR_sF, tr_sF, rNMp_sF, PNp_sF, GS_F29, OP_F29, NR_F29, LI_F29, RG_l29, RG_r29, TPRp_sF29, WNp_sF29, VMp_sF29, KYp_sF29, PPp_sF29, WFp_sF29, CCp_sF29, rk_n0 hp_2]); omega) | omega | (have zz_ := fz_z (by assumption); omega) | (split <;> omega) | done)), ?_⟩
    intro s22 Ws22 e22_0 e22_1 e22_2 e22_3 e22_4 e22_5 e22_6 e22_7 e22_8 e22_9 e22_10 e22_11 e22_12 e22_13 e22_14 e22_15 e22_16 e22_17 e22_18 e22_19 e22_20 e22_21 e22_22 e22_23 e22_24 R22 q22
    have q22 := dig_need q22 (by (try simp only [reduceIte, and_true, true_and, and_false, false_and, and_self, Nat.reduceEqDiff, fz_sF29, rF_sF, rA_sF, rR_sF, tr_sF, rNMp_sF, PNp_sF, GS_F29, OP_F29, NR_F29, LI_F29, RG_l29, RG_r29, TPRp_sF29, WNp_sF29, VMp_sF29, KYp_sF29, PPp_sF29, WFp_sF29, CCp_sF29, rk_n0 hp_2]); omega)
    obtain ⟨q22_1, q22_2, q22_3, q22_4⟩ := q22
    (try simp only [reduceIte, and_true, true_and, and_false, false_and, and_self, Nat.reduceEqDiff, fz_sF29, rF_sF, rA_sF, rR_sF, tr_sF, rNMp_sF, PNp_sF, GS_F29, OP_F29, NR_F29, LI_F29, RG_l29, RG_r29, TPRp_sF29, WNp_sF29, VMp_sF29, KYp_sF29, PPp_sF29, WFp_sF29, CCp_sF29, rk_n0 hp_2, NBP, NBQ] at q22_1 q22_2 q22_3 q22_4 e22_0 e22_1 e22_2 e22_3 e22_4 e22_5 e22_6 e22_7 e22_8 e22_9 e22_10 e22_11 e22_12 e22_13 e22_14 e22_15 e22_16 e22_17 e22_18 e22_19 e22_20 e22_21 e22_22 e22_23 e22_24 R22)
    have Ks22 : rR s22 7 = rR σ 7 := by first | assumption | ((try simp only [rR_sF, rR_sA, rR_sT, rR_sL] at e22_0 e22_1 e22_2 e22_3 e22_4 e22_5 e22_6 e22_7 e22_8 e22_9 e22_10 e22_11 e22_12 e22_13 e22_14 e22_15 e22_16 e22_17 e22_18 e22_19 e22_20 e22_21 e22_22 e22_23 e22_24 R22); omega)
    have zr22 := fz_rng s22
    have zc22 : fz s22 = 0 → fz σ = 0 := fun hf => by omega
    have A22 : Im (fz s22 = 0) (RG σ s22 (rR σ 7) 0) := fun hf => RG.trk hp_2 ((fun _ => RG.rf) (zc22 hf)) R22 (Or.inr (Or.inl rfl))
    have Ku60 : Im (fz s22 = 0) (GK g g (rF σ (rR σ 7) 7) (rF s22 (rR σ 7) 7) 0) := fun hf => GK.trans ((fun _ => GK.rf) (zc22 hf)) (GK.up (N := rF σ (rR σ 7) 7) (N' := rF s22 (rR σ 7) 7) (c := 0) (by first | assumption | omega | (simp only [rF_sT, rF_sA]; omega))) (Or.inr (Or.inl rfl))
    have Gu61 : Im (fz s22 = 0) (GS s22 (rR σ 7) g) := fun hf => GS.mv hp_2 (hp_8 (zc22 hf)) R22 (by first | assumption | omega | (simp only [rF_sT, rF_sA]; omega)) (by first | (exact Int.le_of_eq (Eq.symm (by assumption))) | omega | (simp only [rF_sT, rF_sA]; omega))
    have rNMp_22 := e22_0 hp_5; clear e22_0
    have TPRp_22 := e22_1 hC1; clear e22_1
    have WNp_22 := e22_2 hp_6; clear e22_2
    have PNp_22 := e22_3 hp_7; clear e22_3
    have CCp_22 := e22_4 hp_3; clear e22_4
    refine ⟨(by (try simp only [pre_X14_tagName, Ks22]); (all_goals (repeat' (first | with_reducible intro _ | with_reducible apply And.intro | with_reducible refine Exists.intro g ?_ | with_reducible refine Im.and ?_ ?_))); all_goals (first | assumption | trivial | ((with_reducible refine Im.i fun hf_ => ?_); first | exact (A22 hf_) | exact (Gu61 hf_) | exact (Ku60 hf_) | exact ok1.i | (exact LI.z (fun h => absurd h (by decide))) | (exact absurd hf_ (by omega)) | omega) | (unfold NBP; (try simp only [Ks22]); omega) | (unfold NBQ; (try simp only [Ks22]); omega) | omega | (have zz_ := fz_z (by assumption); omega) | (split <;> omega) | done)), ?_⟩
    intro v26 s26 hv26 Ws26 e26_0 e26_1 e26_2 e26_3 e26_4 e26_5 e26_6 e26_7 e26_8 e26_9 e26_10 e26_11 e26_12 e26_13 e26_14 e26_15 e26_16 e26_17 e26_18 e26_19 e26_20 R26 q26
    unfold rng at hv26
    have q26 := dig_tagName q26 (by (try simp only [Ks22]); omega) (by (try simp only [Ks22]); omega) (by (try simp only [Ks22]); omega)
    obtain ⟨q26_1, q26_2, q26_3, q26_4, q26_5, q26_6, q26_7, q26_8, q26_9, q26_10, q26_11, q26_12⟩ := q26
    (try simp only [Ks22, NBP, NBQ] at q26_1 q26_2 q26_3 q26_4 q26_5 q26_6 q26_7 q26_8 q26_9 q26_10 q26_11 q26_12 e26_0 e26_1 e26_2 e26_3 e26_4 e26_5 e26_6 e26_7 e26_8 e26_9 e26_10 e26_11 e26_12 e26_13 e26_14 e26_15 e26_16 e26_17 e26_18 e26_19 e26_20 R26)
    have Ks26 : rR s26 7 = rR σ 7 := by first | assumption | ((try simp only [rR_sF, rR_sA, rR_sT, rR_sL] at e26_0 e26_1 e26_2 e26_3 e26_4 e26_5 e26_6 e26_7 e26_8 e26_9 e26_10 e26_11 e26_12 e26_13 e26_14 e26_15 e26_16 e26_17 e26_18 e26_19 e26_20 R26); omega)
    have zr26 := fz_rng s26
    have zc26 : fz s26 = 0 → fz s22 = 0 := fun hf => by omega
    have A26 : Im (fz s26 = 0) (RG σ s26 (rR σ 7) 0) := fun hf => RG.trk hp_2 (A22 (zc26 hf)) R26 (Or.inr (Or.inl rfl))
    have Ku62 : Im (fz s26 = 0) (GK g g (rF σ (rR σ 7) 7) (rF s26 (rR σ 7) 7) 0) := fun hf => GK.trans (Ku60 (zc26 hf)) (GK.up (N := rF s22 (rR σ 7) 7) (N' := rF s26 (rR σ 7) 7) (c := 0) (by first | assumption | omega | (simp only [rF_sT, rF_sA]; omega))) (Or.inr (Or.inl rfl))
    have Gu63 : Im (fz s26 = 0) (GS s26 (rR σ 7) g) := fun hf => GS.mv hp_2 (Gu61 (zc26 hf)) R26 (by first | assumption | omega | (simp only [rF_sT, rF_sA]; omega)) (by first | (exact Int.le_of_eq (Eq.symm (by assumption))) | omega | (simp only [rF_sT, rF_sA]; omega))
    have TPRp_26 := e26_0 TPRp_22; clear e26_0
    have WNp_26 := e26_1 WNp_22; clear e26_1
    have PNp_26 := e26_2 PNp_22; clear e26_2
    have CCp_26 := e26_3 CCp_22; clear e26_3
    intro hr_; unfold rng at hr_
    refine ⟨fun c35 => ?_, fun c35 => ?_⟩
    · have z35 := fz_z c35
      intro hr_; unfold rng at hr_
      refine ⟨(by (try simp only [pre_X14_blanks, Ks26]); (all_goals (repeat' (first | with_reducible intro _ | with_reducible apply And.intro | with_reducible refine Exists.intro g ?_ | with_reducible refine Im.and ?_ ?_))); all_goals (first | assumption | trivial | ((with_reducible refine Im.i fun hf_ => ?_); first | exact (A26 hf_) | exact (Gu63 hf_) | exact (Ku62 hf_) | exact ok1.i | (exact LI.z (fun h => absurd h (by decide))) | (exact absurd hf_ (by omega)) | omega) | (unfold NBP; (try simp only [Ks26]); omega) | (unfold NBQ; (try simp only [Ks26]); omega) | omega | (have zz_ := fz_z (by assumption); omega) | (split <;> omega) | done)), ?_⟩
      intro s47 Ws47 e47_0 e47_1 e47_2 e47_3 e47_4 e47_5 e47_6 e47_7 e47_8 e47_9 e47_10 e47_11 e47_12 e47_13 e47_14 e47_15 e47_16 e47_17 e47_18 e47_19 e47_20 e47_21 e47_22 e47_23 e47_24 e47_25 e47_26 R47 q47
      have q47 := dig_blanks q47 (by (try simp only [Ks26]); omega)
      obtain ⟨q47_1, q47_2⟩ := q47
      (try simp only [Ks26, NBP, NBQ] at q47_1 q47_2 e47_0 e47_1 e47_2 e47_3 e47_4 e47_5 e47_6 e47_7 e47_8 e47_9 e47_10 e47_11 e47_12 e47_13 e47_14 e47_15 e47_16 e47_17 e47_18 e47_19 e47_20 e47_21 e47_22 e47_23 e47_24 e47_25 e47_26 R47)
      have Ks47 : rR s47 7 = rR σ 7 := by first | assumption | ((try simp only [rR_sF, rR_sA, rR_sT, rR_sL] at e47_0 e47_1 e47_2 e47_3 e47_4 e47_5 e47_6 e47_7 e47_8 e47_9 e47_10 e47_11 e47_12 e47_13 e47_14 e47_15 e47_16 e47_17 e47_18 e47_19 e47_20 e47_21 e47_22 e47_23 e47_24 e47_25 e47_26 R47); omega)
      have zr47 := fz_rng s47
      have zc47 : fz s47 = 0 → fz s26 = 0 := fun hf => by omega
      have A47 : Im (fz s47 = 0) (RG σ s47 (rR σ 7) 0) := fun hf => RG.trk hp_2 (A26 (zc47 hf)) R47 (Or.inr (Or.inl rfl))
      have Ku64 : Im (fz s47 = 0) (GK g g (rF σ (rR σ 7) 7) (rF s47 (rR σ 7) 7) 0) := fun hf => GK.trans (Ku62 (zc47 hf)) (GK.up (N := rF s26 (rR σ 7) 7) (N' := rF s47 (rR σ 7) 7) (c := 0) (by first | assumption | omega | (simp only [rF_sT, rF_sA]; omega))) (Or.inr (Or.inl rfl))
      have Gu65 : Im (fz s47 = 0) (GS s47 (rR σ 7) g) := fun hf => GS.mv hp_2 (Gu63 (zc47 hf)) R47 (by first | assumption | omega | (simp only [rF_sT, rF_sA]; omega)) (by first | (exact Int.le_of_eq (Eq.symm (by assumption))) | omega | (simp only [rF_sT, rF_sA]; omega))
      have rNMp_47 := e47_0 q26_4; clear e47_0
      have TPRp_47 := e47_1 TPRp_26; clear e47_1
      have WNp_47 := e47_2 WNp_26; clear e47_2
      have PNp_47 := e47_3 PNp_26; clear e47_3
      have CCp_47 := e47_4 CCp_26; clear e47_4
      refine ⟨(by (try simp only [pre_X14_here, Ks47]); (all_goals (repeat' (first | with_reducible intro _ | with_reducible apply And.intro | with_reducible refine Exists.intro g ?_ | with_reducible refine Im.and ?_ ?_))); all_goals (first | assumption | trivial | ((with_reducible refine Im.i fun hf_ => ?_); first | exact (A47 hf_) | exact (Gu65 hf_) | exact (Ku64 hf_) | exact ok1.i | (exact LI.z (fun h => absurd h (by decide))) | (exact absurd hf_ (by omega)) | omega) | (unfold NBP; (try simp only [Ks47]); omega) | (unfold NBQ; (try simp only [Ks47]); omega) | omega | (have zz_ := fz_z (by assumption); omega) | (split <;> omega) | done)), ?_⟩
      intro v51 hv51 q51
      unfold rng at hv51
      unfold post_X14_here at q51
      obtain ⟨q51_1, q51_2⟩ := q51
      (try simp only [Ks47, NBP, NBQ] at q51_1 q51_2)
      refine ⟨fun c56 => ?_, fun c56 => ?_⟩
      · intro hr_; unfold rng at hr_
        refine ⟨(by (try simp only [rng, Ks47]); (all_goals (repeat' (first | with_reducible intro _ | with_reducible apply And.intro | with_reducible refine Exists.intro g ?_ | with_reducible refine Im.and ?_ ?_))); all_goals (first | assumption | trivial | ((with_reducible refine Im.i fun hf_ => ?_); first | exact (A47 hf_) | exact (Gu65 hf_) | exact (Ku64 hf_) | exact ok1.i | (exact LI.z (fun h => absurd h (by decide))) | (exact absurd hf_ (by omega)) | omega) | (unfold NBP; (try simp only [Ks47]); omega) | (unfold NBQ; (try simp only [Ks47]); omega) | omega | (have zz_ := fz_z (by assumption); omega) | (split <;> omega) | done)), ?_⟩
        refine ⟨(by (try simp only [pre_X14_node_t, reduceIte, and_true, true_and, and_false, false_and, and_self, Nat.reduceEqDiff, fz_sF29, rF_sF, rA_sF, rR_sF, tr_sF, rNMp_sF, PNp_sF, GS_F29, OP_F29, NR_F29, LI_F29, RG_l29, RG_r29, TPRp_sF29, WNp_sF29, VMp_sF29, KYp_sF29, PPp_sF29, WFp_sF29, CCp_sF29, rk_n0 hp_2, Ks47]); (all_goals (repeat' (first | with_reducible intro _ | with_reducible apply And.intro | with_reducible refine Exists.intro g ?_ | with_reducible refine Im.and ?_ ?_))); all_goals (first | assumption | trivial | ((with_reducible refine Im.i fun hf_ => ?_); first | exact (A47 hf_) | exact (Gu65 hf_) | exact (Ku64 hf_) | exact ok1.i | (exact LI.z (fun h => absurd h (by decide))) | (exact absurd hf_ (by omega)) | omega) | (unfold NBP; (try simp only [reduceIte, and_true, true_and, and_false, false_and, and_self, Nat.reduceEqDiff, fz_sF29, rF_sF, rA_sF, rR_sF, tr_sF, rNMp_sF, PNp_sF, GS_F29, OP_F29, NR_F29, LI_F29, RG_l29, RG_r29, TPRp_sF29, WNp_sF29, VMp_sF29, KYp_sF29, PPp_sF29, WFp_sF29, CCp_sF29, rk_n0 hp_2, Ks47]); omega) | (unfold NBQ; (try simp only [reduceIte, and_true, true_and, and_false, false_and, and_self, Nat.reduceEqDiff, fz_sF29, rF_sF, rA_sF, rR_sF, tr_sF, rNMp_sF, PNp_sF, GS_F29, OP_F29, NR_F29, LI_F29, RG_l29, RG_r29, TPRp_sF29, WNp_sF29, VMp_sF29, KYp_sF29, PPp_sF29, WFp_sF29, CCp_sF29, rk_n0 hp_2, Ks47]); omega) | omega | (have zz_ := fz_z (by assumption); omega) | (split <;> omega) | done)), ?_⟩
        intro v107 s107 hv107 Ws107 e107_0 e107_1 e107_2 e107_3 e107_4 e107_5 e107_6 e107_7 e107_8 e107_9 e107_10 e107_11 e107_12 e107_13 e107_14 e107_15 e107_16 e107_17 e107_18 e107_19 e107_20 e107_21 e107_22 e107_23 e107_24 e107_25 q107
        unfold rng at hv107
        unfold post_X14_node_t at q107
        obtain ⟨q107_1, q107_2, q107_3, q107_4, q107_5, q107_6, q107_7, q107_8, q107_9, q107_10⟩ := q107
        (try simp only [reduceIte, and_true, true_and, and_false, false_and, and_self, Nat.reduceEqDiff, fz_sF29, rF_sF, rA_sF, rR_sF, tr_sF, rNMp_sF, PNp_sF, GS_F29, OP_F29, NR_F29, LI_F29, RG_l29, RG_r29, TPRp_sF29, WNp_sF29, VMp_sF29, KYp_sF29, PPp_sF29, WFp_sF29, CCp_sF29, rk_n0 hp_2, Ks47, NBP, NBQ] at q107_1 q107_2 q107_3 q107_4 q107_5 q107_6 q107_7 q107_8 q107_9 q107_10 e107_0 e107_1 e107_2 e107_3 e107_4 e107_5 e107_6 e107_7 e107_8 e107_9 e107_10 e107_11 e107_12 e107_13 e107_14 e107_15 e107_16 e107_17 e107_18 e107_19 e107_20 e107_21 e107_22 e107_23 e107_24 e107_25)
        have Ks107 : rR s107 7 = rR σ 7 := by first | assumption | ((try simp only [rR_sF, rR_sA, rR_sT, rR_sL] at e107_0 e107_1 e107_2 e107_3 e107_4 e107_5 e107_6 e107_7 e107_8 e107_9 e107_10 e107_11 e107_12 e107_13 e107_14 e107_15 e107_16 e107_17 e107_18 e107_19 e107_20 e107_21 e107_22 e107_23 e107_24 e107_25); omega)
        have zr107 := fz_rng s107
        have zc107 : fz s107 = 0 → fz s47 = 0 := fun hf => by omega
        have A107 : Im (fz s107 = 0) (RG σ s107 (rR σ 7) 0) := fun hf => RG.trk hp_2 (A47 (zc107 hf)) q107_3 (Or.inr (Or.inl rfl))
        obtain ⟨g107, X107⟩ := EN_c (P := fz s107 = 0) ((rF s47 0 29) + 1) (rF σ 0 31) hp_11 hp_10 hp_2 (fun hf => Gu65 (zc107 hf)) (fun hf => q107_3) q107_1 q107_2 q107_4 q107_5 q107_6 q107_9 (fun hf => by (try simp only [rF_sT, rF_sA]); (repeat' (with_reducible apply And.intro)) <;> first | trivial | omega)
        have Ku66 : Im (fz s107 = 0) (GK g g107 (rF σ (rR σ 7) 7) (rF s107 (rR σ 7) 7) 0) := fun hf => GK.gs (Ku64 (zc107 hf)) (X107 hf).2.1
        have Gu67 : Im (fz s107 = 0) _ := fun hf => (X107 hf).1
        have O107 : Im (fz s107 = 0) _ := fun hf => (X107 hf).2.2.1
        have L107_2 : Im (fz s107 = 0) (LI s107 (rR σ 7) g107 v107 2 K 0) := fun hf => LI.z (fun h => (X107 hf).2.2.2)
        have rNMp_107 := e107_0 rNMp_47; clear e107_0
        have TPRp_107 := e107_1 TPRp_47; clear e107_1
        have WNp_107 := e107_2 WNp_47; clear e107_2
        have CCp_107 := e107_3 CCp_47; clear e107_3
        refine ⟨fun c122 => ?_, fun c122 => ?_⟩
        · refine ⟨(by (try simp only [Ks107]); (all_goals (repeat' (first | with_reducible intro _ | with_reducible apply And.intro | with_reducible refine Exists.intro g107 ?_ | with_reducible refine Im.and ?_ ?_))); all_goals (first | assumption | trivial | ((with_reducible refine Im.i fun hf_ => ?_); first | exact (A107 hf_) | exact (Gu67 hf_) | exact (Ku66 hf_) | exact (O107 hf_).cst | exact (L107_2 hf_) | exact ok1.i | (exact LI.z (fun h => absurd h (by decide))) | (exact absurd hf_ (by omega)) | omega) | (unfold NBP; (try simp only [Ks107]); omega) | (unfold NBQ; (try simp only [Ks107]); omega) | omega | (have zz_ := fz_z (by assumption); omega) | (split <;> omega) | done)), ?_⟩
          have A130 : Im (fz s107 = 0) (RG σ (sT s107 (rR σ 7) 4 v107 0) (rR σ 7) 0) := fun hf => RG.tst (f := 4) (i := v107) (x := 0) hp_2 (A107 hf) (by decide) (by omega)
          have Gu68 : Im (fz s107 = 0) _ := fun hf => GS.c4 (z := 0) hp_2 (Gu67 hf) (O107 hf) (Or.inl (by omega))
          have O107u69 : Im (fz s107 = 0) _ := fun hf => OP.c4 (f := 4) (i := v107) (z := 0) (O107 hf)
          have L107_2u70 : Im (fz s107 = 0) _ := fun hf => LI.c4 (f2 := 4) (i := v107) (z := 0) hp_2 (by decide) (by decide) (L107_2 hf)
          refine ⟨(by (try simp only [pre_X14_check_t, reduceIte, and_true, true_and, and_false, false_and, and_self, Nat.reduceEqDiff, fz_sA, rF_sA, rA_sA, rR_sA, rF_sT, rR_sT, sT_sF, fz_sT, rA_sT26 hp_2, rA_sT27 hp_2, rA_sT34 hp_2, rA_sT35 hp_2, rA_sT36 hp_2, rA_sT37 hp_2, rA_sT40 hp_2, TPRp_sT hp_2, WNp_sT hp_2, VMp_sT hp_2, KYp_sT hp_2, PPp_sT hp_2, WFp_sT hp_2, CCp_sT hp_2, rNMp_sT4, PNp_sT4, rk_n0 hp_2, Ks107]); (all_goals (repeat' (first | with_reducible intro _ | with_reducible apply And.intro | with_reducible refine Exists.intro g107 ?_ | with_reducible refine Im.and ?_ ?_))); all_goals (first | assumption | trivial | ((with_reducible refine Im.i fun hf_ => ?_); first | exact (A130 hf_) | exact (Gu68 hf_) | exact (Ku66 hf_) | exact (O107u69 hf_).cst | exact (L107_2u70 hf_) | exact ok1.i | (exact LI.z (fun h => absurd h (by decide))) | (exact absurd hf_ (by omega)) | omega) | (unfold NBP; (try simp only [reduceIte, and_true, true_and, and_false, false_and, and_self, Nat.reduceEqDiff, fz_sA, rF_sA, rA_sA, rR_sA, rF_sT, rR_sT, sT_sF, fz_sT, rA_sT26 hp_2, rA_sT27 hp_2, rA_sT34 hp_2, rA_sT35 hp_2, rA_sT36 hp_2, rA_sT37 hp_2, rA_sT40 hp_2, TPRp_sT hp_2, WNp_sT hp_2, VMp_sT hp_2, KYp_sT hp_2, PPp_sT hp_2, WFp_sT hp_2, CCp_sT hp_2, rNMp_sT4, PNp_sT4, rk_n0 hp_2, Ks107]); omega) | (unfold NBQ; (try simp only [reduceIte, and_true, true_and, and_false, false_and, and_self, Nat.reduceEqDiff, fz_sA, rF_sA, rA_sA, rR_sA, rF_sT, rR_sT, sT_sF, fz_sT, rA_sT26 hp_2, rA_sT27 hp_2, rA_sT34 hp_2, rA_sT35 hp_2, rA_sT36 hp_2, rA_sT37 hp_2, rA_sT40 hp_2, TPRp_sT hp_2, WNp_sT hp_2, VMp_sT hp_2, KYp_sT hp_2, PPp_sT hp_2, WFp_sT hp_2, CCp_sT hp_2, rNMp_sT4, PNp_sT4, rk_n0 hp_2, Ks107]); omega) | omega | (have zz_ := fz_z (by assumption); omega) | (split <;> omega) | done)), ?_⟩
          intro s138 Ws138 e138_0 e138_1 e138_2 e138_3 e138_4 e138_5 e138_6 e138_7 e138_8 e138_9 e138_10 e138_11 e138_12 e138_13 e138_14 e138_15 e138_16 e138_17 e138_18 e138_19 e138_20 e138_21 e138_22 e138_23 q138
          unfold post_X14_check_t at q138
          obtain ⟨q138_1, q138_2, q138_3, q138_4, q138_5, q138_6⟩ := q138
          (try simp only [reduceIte, and_true, true_and, and_false, false_and, and_self, Nat.reduceEqDiff, fz_sA, rF_sA, rA_sA, rR_sA, rF_sT, rR_sT, sT_sF, fz_sT, rA_sT26 hp_2, rA_sT27 hp_2, rA_sT34 hp_2, rA_sT35 hp_2, rA_sT36 hp_2, rA_sT37 hp_2, rA_sT40 hp_2, TPRp_sT hp_2, WNp_sT hp_2, VMp_sT hp_2, KYp_sT hp_2, PPp_sT hp_2, WFp_sT hp_2, CCp_sT hp_2, rNMp_sT4, PNp_sT4, rk_n0 hp_2, Ks107, NBP, NBQ] at q138_1 q138_2 q138_3 q138_4 q138_5 q138_6 e138_0 e138_1 e138_2 e138_3 e138_4 e138_5 e138_6 e138_7 e138_8 e138_9 e138_10 e138_11 e138_12 e138_13 e138_14 e138_15 e138_16 e138_17 e138_18 e138_19 e138_20 e138_21 e138_22 e138_23)
          have Ks138 : rR s138 7 = rR σ 7 := by first | assumption | ((try simp only [rR_sF, rR_sA, rR_sT, rR_sL] at e138_0 e138_1 e138_2 e138_3 e138_4 e138_5 e138_6 e138_7 e138_8 e138_9 e138_10 e138_11 e138_12 e138_13 e138_14 e138_15 e138_16 e138_17 e138_18 e138_19 e138_20 e138_21 e138_22 e138_23); omega)
          have zr138 := fz_rng s138
          have zc138 : fz s138 = 0 → fz s107 = 0 := fun hf => by omega
          have A138 : Im (fz s138 = 0) (RG σ s138 (rR σ 7) 0) := fun hf => RG.trk hp_2 (A130 (zc138 hf)) q138_2 (Or.inr (Or.inl rfl))
          have O107u71 : Im (fz s138 = 0) _ := fun hf => OP.gk0 (O107u69 (zc138 hf)) (GK.up (g := g107) (N := rF (sT s107 (rR σ 7) 4 v107 0) (rR σ 7) 7) (N' := rF s138 (rR σ 7) 7) (c := 0) (by first | assumption | omega | (simp only [rF_sT, rF_sA]; omega)))
          have L107_2u72 : Im (fz s138 = 0) _ := fun hf => LI.gk0 hp_2 (L107_2u70 (zc138 hf)) (O107u69 (zc138 hf)) q138_2 (GK.up (g := g107) (N := rF (sT s107 (rR σ 7) 4 v107 0) (rR σ 7) 7) (N' := rF s138 (rR σ 7) 7) (c := 0) (by first | assumption | omega | (simp only [rF_sT, rF_sA]; omega)))
          have Ku73 : Im (fz s138 = 0) (GK g g107 (rF σ (rR σ 7) 7) (rF s138 (rR σ 7) 7) 0) := fun hf => GK.trans (Ku66 (zc138 hf)) (GK.up (N := rF (sT s107 (rR σ 7) 4 v107 0) (rR σ 7) 7) (N' := rF s138 (rR σ 7) 7) (c := 0) (by first | assumption | omega | (simp only [rF_sT, rF_sA]; omega))) (Or.inr (Or.inl rfl))
          have Gu74 : Im (fz s138 = 0) (GS s138 (rR σ 7) g107) := fun hf => GS.mv hp_2 (Gu68 (zc138 hf)) q138_2 (by first | assumption | omega | (simp only [rF_sT, rF_sA]; omega)) (by first | (exact Int.le_of_eq (Eq.symm (by assumption))) | omega | (simp only [rF_sT, rF_sA]; omega))
          have rNMp_138 := e138_0 rNMp_107; clear e138_0
          have TPRp_138 := e138_1 TPRp_107; clear e138_1
          have WNp_138 := e138_2 WNp_107; clear e138_2
          have PNp_138 := e138_3 q107_10; clear e138_3
          have CCp_138 := e138_4 CCp_107; clear e138_4
          refine ⟨g107, ?_⟩
          refine ⟨K, ?_⟩
          refine ⟨(by (try simp only [pre_X14_readArgs, Ks138]); (all_goals (repeat' (first | with_reducible intro _ | with_reducible apply And.intro | with_reducible refine Exists.intro g107 ?_ | with_reducible refine Im.and ?_ ?_))); all_goals (first | assumption | trivial | ((with_reducible refine Im.i fun hf_ => ?_); first | exact (A138 hf_) | exact (Gu74 hf_) | exact (Ku73 hf_) | exact (O107u71 hf_).cst | exact (L107_2u72 hf_) | exact ok1.i | (exact LI.z (fun h => absurd h (by decide))) | (exact absurd hf_ (by omega)) | omega) | (unfold NBP; (try simp only [Ks138]); omega) | (unfold NBQ; (try simp only [Ks138]); omega) | omega | (have zz_ := fz_z (by assumption); omega) | (split <;> omega) | done)), ?_⟩
          refine ⟨(by (try simp only [rk_X14_readArgs, Ks138]); (all_goals (repeat' (first | with_reducible intro _ | with_reducible apply And.intro | with_reducible refine Exists.intro g107 ?_ | with_reducible refine Im.and ?_ ?_))); all_goals (first | assumption | trivial | ((with_reducible refine Im.i fun hf_ => ?_); first | exact (A138 hf_) | exact (Gu74 hf_) | exact (Ku73 hf_) | exact (O107u71 hf_).cst | exact (L107_2u72 hf_) | exact ok1.i | (exact LI.z (fun h => absurd h (by decide))) | (exact absurd hf_ (by omega)) | omega) | (unfold NBP; (try simp only [Ks138]); omega) | (unfold NBQ; (try simp only [Ks138]); omega) | omega | (have zz_ := fz_z (by assumption); omega) | (split <;> omega) | done)), ?_⟩
          intro s144 Ws144 e144_0 e144_1 e144_2 e144_3 e144_4 e144_5 e144_6 e144_7 e144_8 e144_9 q144
          unfold post_X14_readArgs at q144
          obtain ⟨q144_1, q144_2, q144_3, q144_4, q144_5, q144_6⟩ := q144
          (try simp only [Ks138, NBP, NBQ] at q144_1 q144_2 q144_3 q144_4 q144_5 q144_6 e144_0 e144_1 e144_2 e144_3 e144_4 e144_5 e144_6 e144_7 e144_8 e144_9)
          have Ks144 : rR s144 7 = rR σ 7 := by first | assumption | ((try simp only [rR_sF, rR_sA, rR_sT, rR_sL] at e144_0 e144_1 e144_2 e144_3 e144_4 e144_5 e144_6 e144_7 e144_8 e144_9); omega)
          have zr144 := fz_rng s144
          have zc144 : fz s144 = 0 → fz s138 = 0 := fun hf => by omega
          have A144 : Im (fz s144 = 0) (RG σ s144 (rR σ 7) 0) := fun hf => RG.trk hp_2 (A138 (zc144 hf)) (q144_5 (by omega)) (by omega)
          obtain ⟨g144, X144⟩ := q144_6
          have Ku75 : Im (fz s144 = 0) (GK g g144 (rF σ (rR σ 7) 7) (rF s144 (rR σ 7) 7) 0) := fun hf => GK.trans (Ku73 (zc144 hf)) ((X144 hf).2.1) (by omega)
          have Gu76 : Im (fz s144 = 0) (GS s144 (rR σ 7) g144) := fun hf => (X144 hf).1
          have O144 : Im (fz s144 = 0) _ := fun hf => OP.lo (O107u71 (zc144 hf)) ((X144 hf).2.1) ((X144 hf).2.2.1)
          have TPRp_144 := e144_0 TPRp_138; clear e144_0
          have CCp_144 := e144_1 CCp_138; clear e144_1
          obtain ⟨gu77, Xu78⟩ := EC_c (P := fz s144 = 0) (rF s144 0 29) hp_11 Gu76 O144 (fun hf => by omega)
          have O144u79 : Im (fz s144 = 0) _ := fun hf => (Xu78 hf).2.1
          have Ku80 : Im (fz s144 = 0) (GK g gu77 (rF σ (rR σ 7) 7) (rF s144 (rR σ 7) 7) 0) := fun hf => GK.kc (Ku75 hf) (Xu78 hf).2.2 (by omega)
          have Gu81 : Im (fz s144 = 0) _ := fun hf => (Xu78 hf).1
          exact (by (try simp only [post_X14_readCall, Ks144]); (all_goals (repeat' (first | with_reducible intro _ | with_reducible apply And.intro | with_reducible refine Exists.intro gu77 ?_ | with_reducible refine Im.and ?_ ?_))); all_goals (first | assumption | trivial | ((with_reducible refine Im.i fun hf_ => ?_); first | exact (A144 hf_) | exact (Gu81 hf_) | exact (Ku80 hf_) | exact (O144u79 hf_).cst | exact ok1.i | (exact LI.z (fun h => absurd h (by decide))) | (exact absurd hf_ (by omega)) | omega) | (unfold NBP; (try simp only [Ks144]); omega) | (unfold NBQ; (try simp only [Ks144]); omega) | omega | (exact fun hf_ => by rw [if_pos (show K = 36 by omega)]; exact (O144u79 (by omega)).cst) | (have zz_ := fz_z (by assumption); omega) | (split <;> omega) | done))
        · refine ⟨(by (try simp only [Ks107]); (all_goals (repeat' (first | with_reducible intro _ | with_reducible apply And.intro | with_reducible refine Exists.intro g107 ?_ | with_reducible refine Im.and ?_ ?_))); all_goals (first | assumption | trivial | ((with_reducible refine Im.i fun hf_ => ?_); first | exact (A107 hf_) | exact (Gu67 hf_) | exact (Ku66 hf_) | exact (O107 hf_).cst | exact (L107_2 hf_) | exact ok1.i | (exact LI.z (fun h => absurd h (by decide))) | (exact absurd hf_ (by omega)) | omega) | (unfold NBP; (try simp only [Ks107]); omega) | (unfold NBQ; (try simp only [Ks107]); omega) | omega | (have zz_ := fz_z (by assumption); omega) | (split <;> omega) | done)), ?_⟩
          have A130 : Im (fz s107 = 0) (RG σ (sT s107 (rR σ 7) 4 v107 1) (rR σ 7) 0) := fun hf => RG.tst (f := 4) (i := v107) (x := 1) hp_2 (A107 hf) (by decide) (by omega)
          have Gu82 : Im (fz s107 = 0) _ := fun hf => GS.c4 (z := 1) hp_2 (Gu67 hf) (O107 hf) (Or.inl (by omega))
          have O107u83 : Im (fz s107 = 0) _ := fun hf => OP.c4 (f := 4) (i := v107) (z := 1) (O107 hf)
          have L107_2u84 : Im (fz s107 = 0) _ := fun hf => LI.c4 (f2 := 4) (i := v107) (z := 1) hp_2 (by decide) (by decide) (L107_2 hf)
          refine ⟨(by (try simp only [pre_X14_check_t, reduceIte, and_true, true_and, and_false, false_and, and_self, Nat.reduceEqDiff, fz_sA, rF_sA, rA_sA, rR_sA, rF_sT, rR_sT, sT_sF, fz_sT, rA_sT26 hp_2, rA_sT27 hp_2, rA_sT34 hp_2, rA_sT35 hp_2, rA_sT36 hp_2, rA_sT37 hp_2, rA_sT40 hp_2, TPRp_sT hp_2, WNp_sT hp_2, VMp_sT hp_2, KYp_sT hp_2, PPp_sT hp_2, WFp_sT hp_2, CCp_sT hp_2, rNMp_sT4, PNp_sT4, rk_n0 hp_2, Ks107]); (all_goals (repeat' (first | with_reducible intro _ | with_reducible apply And.intro | with_reducible refine Exists.intro g107 ?_ | with_reducible refine Im.and ?_ ?_))); all_goals (first | assumption | trivial | ((with_reducible refine Im.i fun hf_ => ?_); first | exact (A130 hf_) | exact (Gu82 hf_) | exact (Ku66 hf_) | exact (O107u83 hf_).cst | exact (L107_2u84 hf_) | exact ok1.i | (exact LI.z (fun h => absurd h (by decide))) | (exact absurd hf_ (by omega)) | omega) | (unfold NBP; (try simp only [reduceIte, and_true, true_and, and_false, false_and, and_self, Nat.reduceEqDiff, fz_sA, rF_sA, rA_sA, rR_sA, rF_sT, rR_sT, sT_sF, fz_sT, rA_sT26 hp_2, rA_sT27 hp_2, rA_sT34 hp_2, rA_sT35 hp_2, rA_sT36 hp_2, rA_sT37 hp_2, rA_sT40 hp_2, TPRp_sT hp_2, WNp_sT hp_2, VMp_sT hp_2, KYp_sT hp_2, PPp_sT hp_2, WFp_sT hp_2, CCp_sT hp_2, rNMp_sT4, PNp_sT4, rk_n0 hp_2, Ks107]); omega) | (unfold NBQ; (try simp only [reduceIte, and_true, true_and, and_false, false_and, and_self, Nat.reduceEqDiff, fz_sA, rF_sA, rA_sA, rR_sA, rF_sT, rR_sT, sT_sF, fz_sT, rA_sT26 hp_2, rA_sT27 hp_2, rA_sT34 hp_2, rA_sT35 hp_2, rA_sT36 hp_2, rA_sT37 hp_2, rA_sT40 hp_2, TPRp_sT hp_2, WNp_sT hp_2, VMp_sT hp_2, KYp_sT hp_2, PPp_sT hp_2, WFp_sT hp_2, CCp_sT hp_2, rNMp_sT4, PNp_sT4, rk_n0 hp_2, Ks107]); omega) | omega | (have zz_ := fz_z (by assumption); omega) | (split <;> omega) | done)), ?_⟩
          intro s138 Ws138 e138_0 e138_1 e138_2 e138_3 e138_4 e138_5 e138_6 e138_7 e138_8 e138_9 e138_10 e138_11 e138_12 e138_13 e138_14 e138_15 e138_16 e138_17 e138_18 e138_19 e138_20 e138_21 e138_22 e138_23 q138
          unfold post_X14_check_t at q138
          obtain ⟨q138_1, q138_2, q138_3, q138_4, q138_5, q138_6⟩ := q138
          (try simp only [reduceIte, and_true, true_and, and_false, false_and, and_self, Nat.reduceEqDiff, fz_sA, rF_sA, rA_sA, rR_sA, rF_sT, rR_sT, sT_sF, fz_sT, rA_sT26 hp_2, rA_sT27 hp_2, rA_sT34 hp_2, rA_sT35 hp_2, rA_sT36 hp_2, rA_sT37 hp_2, rA_sT40 hp_2, TPRp_sT hp_2, WNp_sT hp_2, VMp_sT hp_2, KYp_sT hp_2, PPp_sT hp_2, WFp_sT hp_2, CCp_sT hp_2, rNMp_sT4, PNp_sT4, rk_n0 hp_2, Ks107, NBP, NBQ] at q138_1 q138_2 q138_3 q138_4 q138_5 q138_6 e138_0 e138_1 e138_2 e138_3 e138_4 e138_5 e138_6 e138_7 e138_8 e138_9 e138_10 e138_11 e138_12 e138_13 e138_14 e138_15 e138_16 e138_17 e138_18 e138_19 e138_20 e138_21 e138_22 e138_23)
          have Ks138 : rR s138 7 = rR σ 7 := by first | assumption | ((try simp only [rR_sF, rR_sA, rR_sT, rR_sL] at e138_0 e138_1 e138_2 e138_3 e138_4 e138_5 e138_6 e138_7 e138_8 e138_9 e138_10 e138_11 e138_12 e138_13 e138_14 e138_15 e138_16 e138_17 e138_18 e138_19 e138_20 e138_21 e138_22 e138_23); omega)
          have zr138 := fz_rng s138
          have zc138 : fz s138 = 0 → fz s107 = 0 := fun hf => by omega
          have A138 : Im (fz s138 = 0) (RG σ s138 (rR σ 7) 0) := fun hf => RG.trk hp_2 (A130 (zc138 hf)) q138_2 (Or.inr (Or.inl rfl))
          have O107u85 : Im (fz s138 = 0) _ := fun hf => OP.gk0 (O107u83 (zc138 hf)) (GK.up (g := g107) (N := rF (sT s107 (rR σ 7) 4 v107 1) (rR σ 7) 7) (N' := rF s138 (rR σ 7) 7) (c := 0) (by first | assumption | omega | (simp only [rF_sT, rF_sA]; omega)))
          have L107_2u86 : Im (fz s138 = 0) _ := fun hf => LI.gk0 hp_2 (L107_2u84 (zc138 hf)) (O107u83 (zc138 hf)) q138_2 (GK.up (g := g107) (N := rF (sT s107 (rR σ 7) 4 v107 1) (rR σ 7) 7) (N' := rF s138 (rR σ 7) 7) (c := 0) (by first | assumption | omega | (simp only [rF_sT, rF_sA]; omega)))
          have Ku87 : Im (fz s138 = 0) (GK g g107 (rF σ (rR σ 7) 7) (rF s138 (rR σ 7) 7) 0) := fun hf => GK.trans (Ku66 (zc138 hf)) (GK.up (N := rF (sT s107 (rR σ 7) 4 v107 1) (rR σ 7) 7) (N' := rF s138 (rR σ 7) 7) (c := 0) (by first | assumption | omega | (simp only [rF_sT, rF_sA]; omega))) (Or.inr (Or.inl rfl))
          have Gu88 : Im (fz s138 = 0) (GS s138 (rR σ 7) g107) := fun hf => GS.mv hp_2 (Gu82 (zc138 hf)) q138_2 (by first | assumption | omega | (simp only [rF_sT, rF_sA]; omega)) (by first | (exact Int.le_of_eq (Eq.symm (by assumption))) | omega | (simp only [rF_sT, rF_sA]; omega))
          have rNMp_138 := e138_0 rNMp_107; clear e138_0
          have TPRp_138 := e138_1 TPRp_107; clear e138_1
          have WNp_138 := e138_2 WNp_107; clear e138_2
          have PNp_138 := e138_3 q107_10; clear e138_3
          have CCp_138 := e138_4 CCp_107; clear e138_4
          refine ⟨g107, ?_⟩
          refine ⟨K, ?_⟩
          refine ⟨(by (try simp only [pre_X14_readArgs, Ks138]); (all_goals (repeat' (first | with_reducible intro _ | with_reducible apply And.intro | with_reducible refine Exists.intro g107 ?_ | with_reducible refine Im.and ?_ ?_))); all_goals (first | assumption | trivial | ((with_reducible refine Im.i fun hf_ => ?_); first | exact (A138 hf_) | exact (Gu88 hf_) | exact (Ku87 hf_) | exact (O107u85 hf_).cst | exact (L107_2u86 hf_) | exact ok1.i | (exact LI.z (fun h => absurd h (by decide))) | (exact absurd hf_ (by omega)) | omega) | (unfold NBP; (try simp only [Ks138]); omega) | (unfold NBQ; (try simp only [Ks138]); omega) | omega | (have zz_ := fz_z (by assumption); omega) | (split <;> omega) | done)), ?_⟩
          refine ⟨(by (try simp only [rk_X14_readArgs, Ks138]); (all_goals (repeat' (first | with_reducible intro _ | with_reducible apply And.intro | with_reducible refine Exists.intro g107 ?_ | with_reducible refine Im.and ?_ ?_))); all_goals (first | assumption | trivial | ((with_reducible refine Im.i fun hf_ => ?_); first | exact (A138 hf_) | exact (Gu88 hf_) | exact (Ku87 hf_) | exact (O107u85 hf_).cst | exact (L107_2u86 hf_) | exact ok1.i | (exact LI.z (fun h => absurd h (by decide))) | (exact absurd hf_ (by omega)) | omega) | (unfold NBP; (try simp only [Ks138]); omega) | (unfold NBQ; (try simp only [Ks138]); omega) | omega | (have zz_ := fz_z (by assumption); omega) | (split <;> omega) | done)), ?_⟩
          intro s144 Ws144 e144_0 e144_1 e144_2 e144_3 e144_4 e144_5 e144_6 e144_7 e144_8 e144_9 q144
          unfold post_X14_readArgs at q144
          obtain ⟨q144_1, q144_2, q144_3, q144_4, q144_5, q144_6⟩ := q144
          (try simp only [Ks138, NBP, NBQ] at q144_1 q144_2 q144_3 q144_4 q144_5 q144_6 e144_0 e144_1 e144_2 e144_3 e144_4 e144_5 e144_6 e144_7 e144_8 e144_9)
          have Ks144 : rR s144 7 = rR σ 7 := by first | assumption | ((try simp only [rR_sF, rR_sA, rR_sT, rR_sL] at e144_0 e144_1 e144_2 e144_3 e144_4 e144_5 e144_6 e144_7 e144_8 e144_9); omega)
          have zr144 := fz_rng s144
          have zc144 : fz s144 = 0 → fz s138 = 0 := fun hf => by omega
          have A144 : Im (fz s144 = 0) (RG σ s144 (rR σ 7) 0) := fun hf => RG.trk hp_2 (A138 (zc144 hf)) (q144_5 (by omega)) (by omega)
          obtain ⟨g144, X144⟩ := q144_6
          have Ku89 : Im (fz s144 = 0) (GK g g144 (rF σ (rR σ 7) 7) (rF s144 (rR σ 7) 7) 0) := fun hf => GK.trans (Ku87 (zc144 hf)) ((X144 hf).2.1) (by omega)
          have Gu90 : Im (fz s144 = 0) (GS s144 (rR σ 7) g144) := fun hf => (X144 hf).1
          have O144 : Im (fz s144 = 0) _ := fun hf => OP.lo (O107u85 (zc144 hf)) ((X144 hf).2.1) ((X144 hf).2.2.1)
          have TPRp_144 := e144_0 TPRp_138; clear e144_0
          have CCp_144 := e144_1 CCp_138; clear e144_1
          obtain ⟨gu91, Xu92⟩ := EC_c (P := fz s144 = 0) (rF s144 0 29) hp_11 Gu90 O144 (fun hf => by omega)
          have O144u93 : Im (fz s144 = 0) _ := fun hf => (Xu92 hf).2.1
          have Ku94 : Im (fz s144 = 0) (GK g gu91 (rF σ (rR σ 7) 7) (rF s144 (rR σ 7) 7) 0) := fun hf => GK.kc (Ku89 hf) (Xu92 hf).2.2 (by omega)
          have Gu95 : Im (fz s144 = 0) _ := fun hf => (Xu92 hf).1
          exact (by (try simp only [post_X14_readCall, Ks144]); (all_goals (repeat' (first | with_reducible intro _ | with_reducible apply And.intro | with_reducible refine Exists.intro gu91 ?_ | with_reducible refine Im.and ?_ ?_))); all_goals (first | assumption | trivial | ((with_reducible refine Im.i fun hf_ => ?_); first | exact (A144 hf_) | exact (Gu95 hf_) | exact (Ku94 hf_) | exact (O144u93 hf_).cst | exact ok1.i | (exact LI.z (fun h => absurd h (by decide))) | (exact absurd hf_ (by omega)) | omega) | (unfold NBP; (try simp only [Ks144]); omega) | (unfold NBQ; (try simp only [Ks144]); omega) | omega | (exact fun hf_ => by rw [if_pos (show K = 36 by omega)]; exact (O144u93 (by omega)).cst) | (have zz_ := fz_z (by assumption); omega) | (split <;> omega) | done))
      · refine ⟨fun c60 => ?_, fun c60 => ?_⟩
        · refine ⟨(by (try simp only [pre_X14_place, Ks47]); (all_goals (repeat' (first | with_reducible intro _ | with_reducible apply And.intro | with_reducible refine Exists.intro g ?_ | with_reducible refine Im.and ?_ ?_))); all_goals (first | assumption | trivial | ((with_reducible refine Im.i fun hf_ => ?_); first | exact (A47 hf_) | exact (Gu65 hf_) | exact (Ku64 hf_) | exact ok1.i | (exact LI.z (fun h => absurd h (by decide))) | (exact absurd hf_ (by omega)) | omega) | (unfold NBP; (try simp only [Ks47]); omega) | (unfold NBQ; (try simp only [Ks47]); omega) | omega | (have zz_ := fz_z (by assumption); omega) | (split <;> omega) | done)), ?_⟩
          intro v72 hv72 q72
          unfold rng at hv72
          unfold post_X14_place at q72
          obtain ⟨q72_1, q72_2⟩ := q72
          (try simp only [Ks47, NBP, NBQ] at q72_1 q72_2)
          refine ⟨(by (try simp only [pre_X14_bad, Ks47]); (all_goals (repeat' (first | with_reducible intro _ | with_reducible apply And.intro | with_reducible refine Exists.intro g ?_ | with_reducible refine Im.and ?_ ?_))); all_goals (first | assumption | trivial | ((with_reducible refine Im.i fun hf_ => ?_); first | exact (A47 hf_) | exact (Gu65 hf_) | exact (Ku64 hf_) | exact ok1.i | (exact LI.z (fun h => absurd h (by decide))) | (exact absurd hf_ (by omega)) | omega) | (unfold NBP; (try simp only [Ks47]); omega) | (unfold NBQ; (try simp only [Ks47]); omega) | omega | (have zz_ := fz_z (by assumption); omega) | (split <;> omega) | done)), ?_⟩
          intro s75 Ws75 e75_0 e75_1 e75_2 e75_3 e75_4 e75_5 e75_6 e75_7 e75_8 e75_9 e75_10 e75_11 e75_12 e75_13 e75_14 e75_15 e75_16 e75_17 e75_18 e75_19 e75_20 e75_21 e75_22 e75_23 e75_24 e75_25 R75 q75
          have q75 := dig_bad q75 (by (try simp only [Ks47]); omega)
          obtain ⟨q75_1, q75_2⟩ := q75
          (try simp only [Ks47, NBP, NBQ] at q75_1 q75_2 e75_0 e75_1 e75_2 e75_3 e75_4 e75_5 e75_6 e75_7 e75_8 e75_9 e75_10 e75_11 e75_12 e75_13 e75_14 e75_15 e75_16 e75_17 e75_18 e75_19 e75_20 e75_21 e75_22 e75_23 e75_24 e75_25 R75)
          have Ks75 : rR s75 7 = rR σ 7 := by first | assumption | ((try simp only [rR_sF, rR_sA, rR_sT, rR_sL] at e75_0 e75_1 e75_2 e75_3 e75_4 e75_5 e75_6 e75_7 e75_8 e75_9 e75_10 e75_11 e75_12 e75_13 e75_14 e75_15 e75_16 e75_17 e75_18 e75_19 e75_20 e75_21 e75_22 e75_23 e75_24 e75_25 R75); omega)
          have zr75 := fz_rng s75
          have zc75 : fz s75 = 0 → fz s47 = 0 := fun hf => by omega
          have A75 : Im (fz s75 = 0) (RG σ s75 (rR σ 7) 0) := fun hf => RG.trk hp_2 (A47 (zc75 hf)) R75 (Or.inr (Or.inl rfl))
          have Ku96 : Im (fz s75 = 0) (GK g g (rF σ (rR σ 7) 7) (rF s75 (rR σ 7) 7) 0) := fun hf => GK.trans (Ku64 (zc75 hf)) (GK.up (N := rF s47 (rR σ 7) 7) (N' := rF s75 (rR σ 7) 7) (c := 0) (by first | assumption | omega | (simp only [rF_sT, rF_sA]; omega))) (Or.inr (Or.inl rfl))
          have Gu97 : Im (fz s75 = 0) (GS s75 (rR σ 7) g) := fun hf => GS.mv hp_2 (Gu65 (zc75 hf)) R75 (by first | assumption | omega | (simp only [rF_sT, rF_sA]; omega)) (by first | (exact Int.le_of_eq (Eq.symm (by assumption))) | omega | (simp only [rF_sT, rF_sA]; omega))
          have rNMp_75 := e75_0 rNMp_47; clear e75_0
          have TPRp_75 := e75_1 TPRp_47; clear e75_1
          have WNp_75 := e75_2 WNp_47; clear e75_2
          have PNp_75 := e75_3 PNp_47; clear e75_3
          have CCp_75 := e75_4 CCp_47; clear e75_4
          refine ⟨(by (try simp only [pre_X14_node_t, Ks75]); (all_goals (repeat' (first | with_reducible intro _ | with_reducible apply And.intro | with_reducible refine Exists.intro g ?_ | with_reducible refine Im.and ?_ ?_))); all_goals (first | assumption | trivial | ((with_reducible refine Im.i fun hf_ => ?_); first | exact (A75 hf_) | exact (Gu97 hf_) | exact (Ku96 hf_) | exact ok1.i | (exact LI.z (fun h => absurd h (by decide))) | (exact absurd hf_ (by omega)) | omega) | (unfold NBP; (try simp only [Ks75]); omega) | (unfold NBQ; (try simp only [Ks75]); omega) | omega | (have zz_ := fz_z (by assumption); omega) | (split <;> omega) | done)), ?_⟩
          intro v86 s86 hv86 Ws86 e86_0 e86_1 e86_2 e86_3 e86_4 e86_5 e86_6 e86_7 e86_8 e86_9 e86_10 e86_11 e86_12 e86_13 e86_14 e86_15 e86_16 e86_17 e86_18 e86_19 e86_20 e86_21 e86_22 e86_23 e86_24 e86_25 q86
          unfold rng at hv86
          unfold post_X14_node_t at q86
          obtain ⟨q86_1, q86_2, q86_3, q86_4, q86_5, q86_6, q86_7, q86_8, q86_9, q86_10⟩ := q86
          (try simp only [Ks75, NBP, NBQ] at q86_1 q86_2 q86_3 q86_4 q86_5 q86_6 q86_7 q86_8 q86_9 q86_10 e86_0 e86_1 e86_2 e86_3 e86_4 e86_5 e86_6 e86_7 e86_8 e86_9 e86_10 e86_11 e86_12 e86_13 e86_14 e86_15 e86_16 e86_17 e86_18 e86_19 e86_20 e86_21 e86_22 e86_23 e86_24 e86_25)
          have Ks86 : rR s86 7 = rR σ 7 := by first | assumption | ((try simp only [rR_sF, rR_sA, rR_sT, rR_sL] at e86_0 e86_1 e86_2 e86_3 e86_4 e86_5 e86_6 e86_7 e86_8 e86_9 e86_10 e86_11 e86_12 e86_13 e86_14 e86_15 e86_16 e86_17 e86_18 e86_19 e86_20 e86_21 e86_22 e86_23 e86_24 e86_25); omega)
          have zr86 := fz_rng s86
          have zc86 : fz s86 = 0 → fz s75 = 0 := fun hf => by omega
          have A86 : Im (fz s86 = 0) (RG σ s86 (rR σ 7) 0) := fun hf => RG.trk hp_2 (A75 (zc86 hf)) q86_3 (Or.inr (Or.inl rfl))
          obtain ⟨g86, X86⟩ := EN_35 (P := fz s86 = 0) (rF s47 0 29) (rF σ 0 31) hp_2 (fun hf => Gu97 (zc86 hf)) (fun hf => q86_3) q86_1 q86_2 q86_4 q86_5 q86_6 q86_9 (fun hf => by (try simp only [rF_sT, rF_sA]); (repeat' (with_reducible apply And.intro)) <;> first | trivial | omega)
          have Ku98 : Im (fz s86 = 0) (GK g g86 (rF σ (rR σ 7) 7) (rF s86 (rR σ 7) 7) 0) := fun hf => GK.gs (Ku96 (zc86 hf)) (X86 hf).2.1
          have Gu99 : Im (fz s86 = 0) _ := fun hf => (X86 hf).1
          have O86 : Im (fz s86 = 0) _ := fun hf => (X86 hf).2.2.1
          have rNMp_86 := e86_0 rNMp_75; clear e86_0
          have TPRp_86 := e86_1 TPRp_75; clear e86_1
          have WNp_86 := e86_2 WNp_75; clear e86_2
          have CCp_86 := e86_3 CCp_75; clear e86_3
          obtain ⟨gu100, Xu101⟩ := EC_35 (P := fz s86 = 0) (rF s47 0 29) Gu99 O86 (fun hf => by omega)
          have O86u102 : Im (fz s86 = 0) _ := fun hf => (Xu101 hf).2.1
          have Ku103 : Im (fz s86 = 0) (GK g gu100 (rF σ (rR σ 7) 7) (rF s86 (rR σ 7) 7) 0) := fun hf => GK.kc (Ku98 hf) (Xu101 hf).2.2 (by omega)
          have Gu104 : Im (fz s86 = 0) _ := fun hf => (Xu101 hf).1
          exact (by (try simp only [post_X14_readCall, Ks86]); (all_goals (repeat' (first | with_reducible intro _ | with_reducible apply And.intro | with_reducible refine Exists.intro gu100 ?_ | with_reducible refine Im.and ?_ ?_))); all_goals (first | assumption | trivial | ((with_reducible refine Im.i fun hf_ => ?_); first | exact (A86 hf_) | exact (Gu104 hf_) | exact (Ku103 hf_) | exact (O86u102 hf_).cst | exact ok1.i | (exact LI.z (fun h => absurd h (by decide))) | (exact absurd hf_ (by omega)) | omega) | (unfold NBP; (try simp only [Ks86]); omega) | (unfold NBQ; (try simp only [Ks86]); omega) | omega | (exact fun hf_ => by rw [if_pos (show K = 36 by omega)]; exact (O86u102 (by omega)).cst) | (have zz_ := fz_z (by assumption); omega) | (split <;> omega) | done))
        · refine ⟨fun c66 => ?_, fun c66 => ?_⟩
          · refine ⟨(by (try simp only [pre_X14_node_t, Ks47]); (all_goals (repeat' (first | with_reducible intro _ | with_reducible apply And.intro | with_reducible refine Exists.intro g ?_ | with_reducible refine Im.and ?_ ?_))); all_goals (first | assumption | trivial | ((with_reducible refine Im.i fun hf_ => ?_); first | exact (A47 hf_) | exact (Gu65 hf_) | exact (Ku64 hf_) | exact ok1.i | (exact LI.z (fun h => absurd h (by decide))) | (exact absurd hf_ (by omega)) | omega) | (unfold NBP; (try simp only [Ks47]); omega) | (unfold NBQ; (try simp only [Ks47]); omega) | omega | (have zz_ := fz_z (by assumption); omega) | (split <;> omega) | done)), ?_⟩
            intro v86 s86 hv86 Ws86 e86_0 e86_1 e86_2 e86_3 e86_4 e86_5 e86_6 e86_7 e86_8 e86_9 e86_10 e86_11 e86_12 e86_13 e86_14 e86_15 e86_16 e86_17 e86_18 e86_19 e86_20 e86_21 e86_22 e86_23 e86_24 e86_25 q86
            unfold rng at hv86
            unfold post_X14_node_t at q86
            obtain ⟨q86_1, q86_2, q86_3, q86_4, q86_5, q86_6, q86_7, q86_8, q86_9, q86_10⟩ := q86
            (try simp only [Ks47, NBP, NBQ] at q86_1 q86_2 q86_3 q86_4 q86_5 q86_6 q86_7 q86_8 q86_9 q86_10 e86_0 e86_1 e86_2 e86_3 e86_4 e86_5 e86_6 e86_7 e86_8 e86_9 e86_10 e86_11 e86_12 e86_13 e86_14 e86_15 e86_16 e86_17 e86_18 e86_19 e86_20 e86_21 e86_22 e86_23 e86_24 e86_25)
            have Ks86 : rR s86 7 = rR σ 7 := by first | assumption | ((try simp only [rR_sF, rR_sA, rR_sT, rR_sL] at e86_0 e86_1 e86_2 e86_3 e86_4 e86_5 e86_6 e86_7 e86_8 e86_9 e86_10 e86_11 e86_12 e86_13 e86_14 e86_15 e86_16 e86_17 e86_18 e86_19 e86_20 e86_21 e86_22 e86_23 e86_24 e86_25); omega)
            have zr86 := fz_rng s86
            have zc86 : fz s86 = 0 → fz s47 = 0 := fun hf => by omega
            have A86 : Im (fz s86 = 0) (RG σ s86 (rR σ 7) 0) := fun hf => RG.trk hp_2 (A47 (zc86 hf)) q86_3 (Or.inr (Or.inl rfl))
            obtain ⟨g86, X86⟩ := EN_35 (P := fz s86 = 0) (rF s47 0 29) (rF σ 0 31) hp_2 (fun hf => Gu65 (zc86 hf)) (fun hf => q86_3) q86_1 q86_2 q86_4 q86_5 q86_6 q86_9 (fun hf => by (try simp only [rF_sT, rF_sA]); (repeat' (with_reducible apply And.intro)) <;> first | trivial | omega)
            have Ku105 : Im (fz s86 = 0) (GK g g86 (rF σ (rR σ 7) 7) (rF s86 (rR σ 7) 7) 0) := fun hf => GK.gs (Ku64 (zc86 hf)) (X86 hf).2.1
            have Gu106 : Im (fz s86 = 0) _ := fun hf => (X86 hf).1
            have O86 : Im (fz s86 = 0) _ := fun hf => (X86 hf).2.2.1
            have rNMp_86 := e86_0 rNMp_47; clear e86_0
            have TPRp_86 := e86_1 TPRp_47; clear e86_1
            have WNp_86 := e86_2 WNp_47; clear e86_2
            have CCp_86 := e86_3 CCp_47; clear e86_3
            obtain ⟨gu107, Xu108⟩ := EC_35 (P := fz s86 = 0) (rF s47 0 29) Gu106 O86 (fun hf => by omega)
            have O86u109 : Im (fz s86 = 0) _ := fun hf => (Xu108 hf).2.1
            have Ku110 : Im (fz s86 = 0) (GK g gu107 (rF σ (rR σ 7) 7) (rF s86 (rR σ 7) 7) 0) := fun hf => GK.kc (Ku105 hf) (Xu108 hf).2.2 (by omega)
            have Gu111 : Im (fz s86 = 0) _ := fun hf => (Xu108 hf).1
            exact (by (try simp only [post_X14_readCall, Ks86]); (all_goals (repeat' (first | with_reducible intro _ | with_reducible apply And.intro | with_reducible refine Exists.intro gu107 ?_ | with_reducible refine Im.and ?_ ?_))); all_goals (first | assumption | trivial | ((with_reducible refine Im.i fun hf_ => ?_); first | exact (A86 hf_) | exact (Gu111 hf_) | exact (Ku110 hf_) | exact (O86u109 hf_).cst | exact ok1.i | (exact LI.z (fun h => absurd h (by decide))) | (exact absurd hf_ (by omega)) | omega) | (unfold NBP; (try simp only [Ks86]); omega) | (unfold NBQ; (try simp only [Ks86]); omega) | omega | (exact fun hf_ => by rw [if_pos (show K = 36 by omega)]; exact (O86u109 (by omega)).cst) | (have zz_ := fz_z (by assumption); omega) | (split <;> omega) | done))
          · refine ⟨(by (try simp only [pre_X14_place, Ks47]); (all_goals (repeat' (first | with_reducible intro _ | with_reducible apply And.intro | with_reducible refine Exists.intro g ?_ | with_reducible refine Im.and ?_ ?_))); all_goals (first | assumption | trivial | ((with_reducible refine Im.i fun hf_ => ?_); first | exact (A47 hf_) | exact (Gu65 hf_) | exact (Ku64 hf_) | exact ok1.i | (exact LI.z (fun h => absurd h (by decide))) | (exact absurd hf_ (by omega)) | omega) | (unfold NBP; (try simp only [Ks47]); omega) | (unfold NBQ; (try simp only [Ks47]); omega) | omega | (have zz_ := fz_z (by assumption); omega) | (split <;> omega) | done)), ?_⟩
            intro v72 hv72 q72
            unfold rng at hv72
            unfold post_X14_place at q72
            obtain ⟨q72_1, q72_2⟩ := q72
            (try simp only [Ks47, NBP, NBQ] at q72_1 q72_2)
            refine ⟨(by (try simp only [pre_X14_bad, Ks47]); (all_goals (repeat' (first | with_reducible intro _ | with_reducible apply And.intro | with_reducible refine Exists.intro g ?_ | with_reducible refine Im.and ?_ ?_))); all_goals (first | assumption | trivial | ((with_reducible refine Im.i fun hf_ => ?_); first | exact (A47 hf_) | exact (Gu65 hf_) | exact (Ku64 hf_) | exact ok1.i | (exact LI.z (fun h => absurd h (by decide))) | (exact absurd hf_ (by omega)) | omega) | (unfold NBP; (try simp only [Ks47]); omega) | (unfold NBQ; (try simp only [Ks47]); omega) | omega | (have zz_ := fz_z (by assumption); omega) | (split <;> omega) | done)), ?_⟩
            intro s75 Ws75 e75_0 e75_1 e75_2 e75_3 e75_4 e75_5 e75_6 e75_7 e75_8 e75_9 e75_10 e75_11 e75_12 e75_13 e75_14 e75_15 e75_16 e75_17 e75_18 e75_19 e75_20 e75_21 e75_22 e75_23 e75_24 e75_25 R75 q75
            have q75 := dig_bad q75 (by (try simp only [Ks47]); omega)
            obtain ⟨q75_1, q75_2⟩ := q75
            (try simp only [Ks47, NBP, NBQ] at q75_1 q75_2 e75_0 e75_1 e75_2 e75_3 e75_4 e75_5 e75_6 e75_7 e75_8 e75_9 e75_10 e75_11 e75_12 e75_13 e75_14 e75_15 e75_16 e75_17 e75_18 e75_19 e75_20 e75_21 e75_22 e75_23 e75_24 e75_25 R75)
            have Ks75 : rR s75 7 = rR σ 7 := by first | assumption | ((try simp only [rR_sF, rR_sA, rR_sT, rR_sL] at e75_0 e75_1 e75_2 e75_3 e75_4 e75_5 e75_6 e75_7 e75_8 e75_9 e75_10 e75_11 e75_12 e75_13 e75_14 e75_15 e75_16 e75_17 e75_18 e75_19 e75_20 e75_21 e75_22 e75_23 e75_24 e75_25 R75); omega)
            have zr75 := fz_rng s75
            have zc75 : fz s75 = 0 → fz s47 = 0 := fun hf => by omega
            have A75 : Im (fz s75 = 0) (RG σ s75 (rR σ 7) 0) := fun hf => RG.trk hp_2 (A47 (zc75 hf)) R75 (Or.inr (Or.inl rfl))
            have Ku112 : Im (fz s75 = 0) (GK g g (rF σ (rR σ 7) 7) (rF s75 (rR σ 7) 7) 0) := fun hf => GK.trans (Ku64 (zc75 hf)) (GK.up (N := rF s47 (rR σ 7) 7) (N' := rF s75 (rR σ 7) 7) (c := 0) (by first | assumption | omega | (simp only [rF_sT, rF_sA]; omega))) (Or.inr (Or.inl rfl))
            have Gu113 : Im (fz s75 = 0) (GS s75 (rR σ 7) g) := fun hf => GS.mv hp_2 (Gu65 (zc75 hf)) R75 (by first | assumption | omega | (simp only [rF_sT, rF_sA]; omega)) (by first | (exact Int.le_of_eq (Eq.symm (by assumption))) | omega | (simp only [rF_sT, rF_sA]; omega))
            have rNMp_75 := e75_0 rNMp_47; clear e75_0
            have TPRp_75 := e75_1 TPRp_47; clear e75_1
            have WNp_75 := e75_2 WNp_47; clear e75_2
            have PNp_75 := e75_3 PNp_47; clear e75_3
            have CCp_75 := e75_4 CCp_47; clear e75_4
            refine ⟨(by (try simp only [pre_X14_node_t, Ks75]); (all_goals (repeat' (first | with_reducible intro _ | with_reducible apply And.intro | with_reducible refine Exists.intro g ?_ | with_reducible refine Im.and ?_ ?_))); all_goals (first | assumption | trivial | ((with_reducible refine Im.i fun hf_ => ?_); first | exact (A75 hf_) | exact (Gu113 hf_) | exact (Ku112 hf_) | exact ok1.i | (exact LI.z (fun h => absurd h (by decide))) | (exact absurd hf_ (by omega)) | omega) | (unfold NBP; (try simp only [Ks75]); omega) | (unfold NBQ; (try simp only [Ks75]); omega) | omega | (have zz_ := fz_z (by assumption); omega) | (split <;> omega) | done)), ?_⟩
            intro v86 s86 hv86 Ws86 e86_0 e86_1 e86_2 e86_3 e86_4 e86_5 e86_6 e86_7 e86_8 e86_9 e86_10 e86_11 e86_12 e86_13 e86_14 e86_15 e86_16 e86_17 e86_18 e86_19 e86_20 e86_21 e86_22 e86_23 e86_24 e86_25 q86
            unfold rng at hv86
            unfold post_X14_node_t at q86
            obtain ⟨q86_1, q86_2, q86_3, q86_4, q86_5, q86_6, q86_7, q86_8, q86_9, q86_10⟩ := q86
            (try simp only [Ks75, NBP, NBQ] at q86_1 q86_2 q86_3 q86_4 q86_5 q86_6 q86_7 q86_8 q86_9 q86_10 e86_0 e86_1 e86_2 e86_3 e86_4 e86_5 e86_6 e86_7 e86_8 e86_9 e86_10 e86_11 e86_12 e86_13 e86_14 e86_15 e86_16 e86_17 e86_18 e86_19 e86_20 e86_21 e86_22 e86_23 e86_24 e86_25)
            have Ks86 : rR s86 7 = rR σ 7 := by first | assumption | ((try simp only [rR_sF, rR_sA, rR_sT, rR_sL] at e86_0 e86_1 e86_2 e86_3 e86_4 e86_5 e86_6 e86_7 e86_8 e86_9 e86_10 e86_11 e86_12 e86_13 e86_14 e86_15 e86_16 e86_17 e86_18 e86_19 e86_20 e86_21 e86_22 e86_23 e86_24 e86_25); omega)
            have zr86 := fz_rng s86
            have zc86 : fz s86 = 0 → fz s75 = 0 := fun hf => by omega
            have A86 : Im (fz s86 = 0) (RG σ s86 (rR σ 7) 0) := fun hf => RG.trk hp_2 (A75 (zc86 hf)) q86_3 (Or.inr (Or.inl rfl))
            obtain ⟨g86, X86⟩ := EN_35 (P := fz s86 = 0) (rF s47 0 29) (rF σ 0 31) hp_2 (fun hf => Gu113 (zc86 hf)) (fun hf => q86_3) q86_1 q86_2 q86_4 q86_5 q86_6 q86_9 (fun hf => by (try simp only [rF_sT, rF_sA]); (repeat' (with_reducible apply And.intro)) <;> first | trivial | omega)
            have Ku114 : Im (fz s86 = 0) (GK g g86 (rF σ (rR σ 7) 7) (rF s86 (rR σ 7) 7) 0) := fun hf => GK.gs (Ku112 (zc86 hf)) (X86 hf).2.1
            have Gu115 : Im (fz s86 = 0) _ := fun hf => (X86 hf).1
            have O86 : Im (fz s86 = 0) _ := fun hf => (X86 hf).2.2.1
            have rNMp_86 := e86_0 rNMp_75; clear e86_0
            have TPRp_86 := e86_1 TPRp_75; clear e86_1
            have WNp_86 := e86_2 WNp_75; clear e86_2
            have CCp_86 := e86_3 CCp_75; clear e86_3
            obtain ⟨gu116, Xu117⟩ := EC_35 (P := fz s86 = 0) (rF s47 0 29) Gu115 O86 (fun hf => by omega)
            have O86u118 : Im (fz s86 = 0) _ := fun hf => (Xu117 hf).2.1
            have Ku119 : Im (fz s86 = 0) (GK g gu116 (rF σ (rR σ 7) 7) (rF s86 (rR σ 7) 7) 0) := fun hf => GK.kc (Ku114 hf) (Xu117 hf).2.2 (by omega)
            have Gu120 : Im (fz s86 = 0) _ := fun hf => (Xu117 hf).1
            exact (by (try simp only [post_X14_readCall, Ks86]); (all_goals (repeat' (first | with_reducible intro _ | with_reducible apply And.intro | with_reducible refine Exists.intro gu116 ?_ | with_reducible refine Im.and ?_ ?_))); all_goals (first | assumption | trivial | ((with_reducible refine Im.i fun hf_ => ?_); first | exact (A86 hf_) | exact (Gu120 hf_) | exact (Ku119 hf_) | exact (O86u118 hf_).cst | exact ok1.i | (exact LI.z (fun h => absurd h (by decide))) | (exact absurd hf_ (by omega)) | omega) | (unfold NBP; (try simp only [Ks86]); omega) | (unfold NBQ; (try simp only [Ks86]); omega) | omega | (exact fun hf_ => by rw [if_pos (show K = 36 by omega)]; exact (O86u118 (by omega)).cst) | (have zz_ := fz_z (by assumption); omega) | (split <;> omega) | done))
    · have z35 := fz_n c35
      exact (by (try simp only [post_X14_readCall, Ks26]); (all_goals (repeat' (first | with_reducible intro _ | with_reducible apply And.intro | with_reducible refine Exists.intro g ?_ | with_reducible refine Im.and ?_ ?_))); all_goals (first | assumption | trivial | ((with_reducible refine Im.i fun hf_ => ?_); first | exact (A26 hf_) | exact (Gu63 hf_) | exact (Ku62 hf_) | exact ok1.i | (exact LI.z (fun h => absurd h (by decide))) | (exact absurd hf_ (by omega)) | omega) | (unfold NBP; (try simp only [Ks26]); omega) | (unfold NBQ; (try simp only [Ks26]); omega) | omega | (have zz_ := fz_z (by assumption); omega) | (split <;> omega) | done))
