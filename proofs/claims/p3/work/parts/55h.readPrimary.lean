set_option maxHeartbeats 20000000 in
theorem vX14_readPrimary (n : Nat) (σ : rS) (gg : Nat) (g : Nat → Int → Int) (hwf : rWF σ) (hp : pre_X14_readPrimary σ gg g) (hr : rk_X14_readPrimary σ gg g ≤ n + 1) : VC_X14_readPrimary n σ gg g (post_X14_readPrimary σ gg g) := by
  unfold pre_X14_readPrimary at hp
  obtain ⟨hp_1, hp_2, hp_3, hp_4, hp_5, hp_6, hp_7, hp_8, hp_9⟩ := hp
  subst hp_1
  unfold rk_X14_readPrimary at hr
  have hN := hp_4
  unfold NBP at hN
  have hC := hp_3
  unfold CCp at hC
  obtain ⟨hC1, hC⟩ := hC
  have zr0 := fz_rng σ
  have hr2 : fz σ = 0 → 16 * (21 - rF σ 0 31).toNat + 5 ≤ n + 1 := fun h => by rw [if_pos h] at hr; exact hr
  have hr3 : 5 ≤ n + 1 := by have := hr; split at this <;> omega
  clear hr
  unfold VC_X14_readPrimary
  refine ⟨(by (all_goals (repeat' (first | with_reducible intro _ | with_reducible apply And.intro))); all_goals (first | assumption | trivial | (unfold NBP; omega) | (unfold NBQ; omega) | omega | (have zz_ := fz_z (by assumption); omega) | (split <;> omega) | done)), ?_⟩
  refine ⟨(by (try simp only [pre_X14_place]); (all_goals (repeat' (first | with_reducible intro _ | with_reducible apply And.intro | with_reducible refine Exists.intro g ?_ | with_reducible refine Im.and ?_ ?_))); all_goals (first | assumption | trivial | ((with_reducible refine Im.i fun hf_ => ?_); first | exact ((fun _ => RG.rf) hf_) | exact (hp_8 hf_) | exact ((fun _ => GK.rf) hf_) | exact ok1.i | (exact LI.z (fun h => absurd h (by decide))) | (exact absurd hf_ (by omega)) | omega) | (unfold NBP; omega) | (unfold NBQ; omega) | omega | (have zz_ := fz_z (by assumption); omega) | (split <;> omega) | done)), ?_⟩
  intro v1 hv1 q1
  unfold rng at hv1
  unfold post_X14_place at q1
  obtain ⟨q1_1, q1_2⟩ := q1
  (try simp only [NBP, NBQ] at q1_1 q1_2)
  refine ⟨(by (try simp only [pre_X14_here]); (all_goals (repeat' (first | with_reducible intro _ | with_reducible apply And.intro | with_reducible refine Exists.intro g ?_ | with_reducible refine Im.and ?_ ?_))); all_goals (first | assumption | trivial | ((with_reducible refine Im.i fun hf_ => ?_); first | exact ((fun _ => RG.rf) hf_) | exact (hp_8 hf_) | exact ((fun _ => GK.rf) hf_) | exact ok1.i | (exact LI.z (fun h => absurd h (by decide))) | (exact absurd hf_ (by omega)) | omega) | (unfold NBP; omega) | (unfold NBQ; omega) | omega | (have zz_ := fz_z (by assumption); omega) | (split <;> omega) | done)), ?_⟩
  intro v6 hv6 q6
  unfold rng at hv6
  unfold post_X14_here at q6
  obtain ⟨q6_1, q6_2⟩ := q6
  (try simp only [NBP, NBQ] at q6_1 q6_2)
  refine ⟨fun c13 => ?_, fun c13 => ?_⟩
  · refine ⟨g, ?_⟩
    refine ⟨(by (try simp only [pre_X14_readString_g]); (all_goals (repeat' (first | with_reducible intro _ | with_reducible apply And.intro | with_reducible refine Exists.intro g ?_ | with_reducible refine Im.and ?_ ?_))); all_goals (first | assumption | trivial | ((with_reducible refine Im.i fun hf_ => ?_); first | exact ((fun _ => RG.rf) hf_) | exact (hp_8 hf_) | exact ((fun _ => GK.rf) hf_) | exact ok1.i | (exact LI.z (fun h => absurd h (by decide))) | (exact absurd hf_ (by omega)) | omega) | (unfold NBP; omega) | (unfold NBQ; omega) | omega | (have zz_ := fz_z (by assumption); omega) | (split <;> omega) | done)), ?_⟩
    intro v24 s24 hv24 Ws24 e24_0 e24_1 e24_2 e24_3 e24_4 e24_5 e24_6 e24_7 e24_8 e24_9 e24_10 e24_11 e24_12 e24_13 e24_14 e24_15 e24_16 e24_17 e24_18 e24_19 e24_20 e24_21 q24
    unfold rng at hv24
    unfold post_X14_readString_g at q24
    obtain ⟨q24_1, q24_2, q24_3, q24_4, q24_5, q24_6, q24_7, q24_8, q24_9, q24_10, q24_11, q24_12, q24_13, q24_14, q24_15⟩ := q24
    (try simp only [NBP, NBQ] at q24_1 q24_2 q24_3 q24_4 q24_5 q24_6 q24_7 q24_8 q24_9 q24_10 q24_11 q24_12 q24_13 q24_14 q24_15 e24_0 e24_1 e24_2 e24_3 e24_4 e24_5 e24_6 e24_7 e24_8 e24_9 e24_10 e24_11 e24_12 e24_13 e24_14 e24_15 e24_16 e24_17 e24_18 e24_19 e24_20 e24_21)
    have Ks24 : rR s24 7 = rR σ 7 := by first | assumption | ((try simp only [rR_sF, rR_sA, rR_sT, rR_sL] at e24_0 e24_1 e24_2 e24_3 e24_4 e24_5 e24_6 e24_7 e24_8 e24_9 e24_10 e24_11 e24_12 e24_13 e24_14 e24_15 e24_16 e24_17 e24_18 e24_19 e24_20 e24_21); omega)
    have zr24 := fz_rng s24
    have zc24 : fz s24 = 0 → fz σ = 0 := fun hf => by omega
    have A24 : Im (fz s24 = 0) (RG σ s24 (rR σ 7) 0) := fun hf => RG.trk hp_2 ((fun _ => RG.rf) (zc24 hf)) (q24_14 (by omega)) (Or.inr (Or.inl rfl))
    obtain ⟨g24, X24⟩ := q24_15
    have Ku1 : Im (fz s24 = 0) (GK g g24 (rF σ (rR σ 7) 7) (rF s24 (rR σ 7) 7) 0) := fun hf => GK.trans ((fun _ => GK.rf) (zc24 hf)) ((X24 hf).2.1) (Or.inr (Or.inl rfl))
    have Gu2 : Im (fz s24 = 0) (GS s24 (rR σ 7) g24) := fun hf => (X24 hf).1
    have r24 : Im (fz s24 = 0) _ := fun hf => (X24 hf).2.2.1
    have TPRp_24 := e24_0 hC1; clear e24_0
    have WNp_24 := e24_1 hp_6; clear e24_1
    have CCp_24 := e24_2 hp_3; clear e24_2
    exact (by (try simp only [post_X14_readPrimary, Ks24]); (all_goals (repeat' (first | with_reducible intro _ | with_reducible apply And.intro | with_reducible refine Exists.intro g24 ?_ | with_reducible refine Im.and ?_ ?_))); all_goals (first | assumption | trivial | ((with_reducible refine Im.i fun hf_ => ?_); first | exact (A24 hf_) | exact (Gu2 hf_) | exact (Ku1 hf_) | exact (r24 hf_).cst | exact ok1.i | (exact LI.z (fun h => absurd h (by decide))) | (exact absurd hf_ (by omega)) | omega) | (unfold NBP; (try simp only [Ks24]); omega) | (unfold NBQ; (try simp only [Ks24]); omega) | omega | (have zz_ := fz_z (by assumption); omega) | (split <;> omega) | done))
  · refine ⟨fun c19 => ?_, fun c19 => ?_⟩
    · refine ⟨fun c31 => ?_, fun c31 => ?_⟩
      · refine ⟨fun c42 => ?_, fun c42 => ?_⟩
        · refine ⟨fun c53 => ?_, fun c53 => ?_⟩
          · refine ⟨(by (try simp only [pre_X14_isWord_t]); (all_goals (repeat' (first | with_reducible intro _ | with_reducible apply And.intro | with_reducible refine Exists.intro g ?_ | with_reducible refine Im.and ?_ ?_))); all_goals (first | assumption | trivial | ((with_reducible refine Im.i fun hf_ => ?_); first | exact ((fun _ => RG.rf) hf_) | exact (hp_8 hf_) | exact ((fun _ => GK.rf) hf_) | exact ok1.i | (exact LI.z (fun h => absurd h (by decide))) | (exact absurd hf_ (by omega)) | omega) | (unfold NBP; omega) | (unfold NBQ; omega) | omega | (have zz_ := fz_z (by assumption); omega) | (split <;> omega) | done)), ?_⟩
            intro v141 hv141 q141
            unfold rng at hv141
            unfold post_X14_isWord_t at q141
            obtain ⟨q141_1, q141_2, q141_3⟩ := q141
            (try simp only [NBP, NBQ] at q141_1 q141_2 q141_3)
            refine ⟨fun c144 => ?_, fun c144 => ?_⟩
            · refine ⟨(by (try simp only [pre_X14_isWord_t]); (all_goals (repeat' (first | with_reducible intro _ | with_reducible apply And.intro | with_reducible refine Exists.intro g ?_ | with_reducible refine Im.and ?_ ?_))); all_goals (first | assumption | trivial | ((with_reducible refine Im.i fun hf_ => ?_); first | exact ((fun _ => RG.rf) hf_) | exact (hp_8 hf_) | exact ((fun _ => GK.rf) hf_) | exact ok1.i | (exact LI.z (fun h => absurd h (by decide))) | (exact absurd hf_ (by omega)) | omega) | (unfold NBP; omega) | (unfold NBQ; omega) | omega | (have zz_ := fz_z (by assumption); omega) | (split <;> omega) | done)), ?_⟩
              intro v162 hv162 q162
              unfold rng at hv162
              unfold post_X14_isWord_t at q162
              obtain ⟨q162_1, q162_2, q162_3⟩ := q162
              (try simp only [NBP, NBQ] at q162_1 q162_2 q162_3)
              refine ⟨fun c165 => ?_, fun c165 => ?_⟩
              · refine ⟨(by (try simp only [pre_X14_node_t]); (all_goals (repeat' (first | with_reducible intro _ | with_reducible apply And.intro | with_reducible refine Exists.intro g ?_ | with_reducible refine Im.and ?_ ?_))); all_goals (first | assumption | trivial | ((with_reducible refine Im.i fun hf_ => ?_); first | exact ((fun _ => RG.rf) hf_) | exact (hp_8 hf_) | exact ((fun _ => GK.rf) hf_) | exact ok1.i | (exact LI.z (fun h => absurd h (by decide))) | (exact absurd hf_ (by omega)) | omega) | (unfold NBP; omega) | (unfold NBQ; omega) | omega | (have zz_ := fz_z (by assumption); omega) | (split <;> omega) | done)), ?_⟩
                intro v178 s178 hv178 Ws178 e178_0 e178_1 e178_2 e178_3 e178_4 e178_5 e178_6 e178_7 e178_8 e178_9 e178_10 e178_11 e178_12 e178_13 e178_14 e178_15 e178_16 e178_17 e178_18 e178_19 e178_20 e178_21 e178_22 e178_23 e178_24 e178_25 e178_26 q178
                unfold rng at hv178
                unfold post_X14_node_t at q178
                obtain ⟨q178_1, q178_2, q178_3, q178_4, q178_5, q178_6, q178_7, q178_8, q178_9, q178_10⟩ := q178
                (try simp only [NBP, NBQ] at q178_1 q178_2 q178_3 q178_4 q178_5 q178_6 q178_7 q178_8 q178_9 q178_10 e178_0 e178_1 e178_2 e178_3 e178_4 e178_5 e178_6 e178_7 e178_8 e178_9 e178_10 e178_11 e178_12 e178_13 e178_14 e178_15 e178_16 e178_17 e178_18 e178_19 e178_20 e178_21 e178_22 e178_23 e178_24 e178_25 e178_26)
                have Ks178 : rR s178 7 = rR σ 7 := by first | assumption | ((try simp only [rR_sF, rR_sA, rR_sT, rR_sL] at e178_0 e178_1 e178_2 e178_3 e178_4 e178_5 e178_6 e178_7 e178_8 e178_9 e178_10 e178_11 e178_12 e178_13 e178_14 e178_15 e178_16 e178_17 e178_18 e178_19 e178_20 e178_21 e178_22 e178_23 e178_24 e178_25 e178_26); omega)
                have zr178 := fz_rng s178
                have zc178 : fz s178 = 0 → fz σ = 0 := fun hf => by omega
                have A178 : Im (fz s178 = 0) (RG σ s178 (rR σ 7) 0) := fun hf => RG.trk hp_2 ((fun _ => RG.rf) (zc178 hf)) q178_3 (Or.inr (Or.inl rfl))
                obtain ⟨g178, X178⟩ := EN_32 (P := fz s178 = 0) (rF σ 0 29) (rF σ 0 31) hp_2 (fun hf => hp_8 (zc178 hf)) (fun hf => q178_3) q178_1 q178_2 q178_4 q178_5 q178_6 q178_9 (fun hf => by (try simp only [rF_sT, rF_sA]); (repeat' (with_reducible apply And.intro)) <;> first | trivial | omega)
                have Ku3 : Im (fz s178 = 0) (GK g g178 (rF σ (rR σ 7) 7) (rF s178 (rR σ 7) 7) 0) := fun hf => GK.gs ((fun _ => GK.rf) (zc178 hf)) (X178 hf).2.1
                have Gu4 : Im (fz s178 = 0) _ := fun hf => (X178 hf).1
                have O178 : Im (fz s178 = 0) _ := fun hf => (X178 hf).2.2.1
                have rNMp_178 := e178_0 hp_5; clear e178_0
                have TPRp_178 := e178_1 hC1; clear e178_1
                have WNp_178 := e178_2 hp_6; clear e178_2
                have CCp_178 := e178_3 hp_3; clear e178_3
                intro hr_; unfold rng at hr_
                intro hr_; unfold rng at hr_
                refine ⟨(by (try simp only [pre_X14_wordEnd_t, Ks178]); (all_goals (repeat' (first | with_reducible intro _ | with_reducible apply And.intro | with_reducible refine Exists.intro g178 ?_ | with_reducible refine Im.and ?_ ?_))); all_goals (first | assumption | trivial | ((with_reducible refine Im.i fun hf_ => ?_); first | exact (A178 hf_) | exact (Gu4 hf_) | exact (Ku3 hf_) | exact (O178 hf_).cst | exact ok1.i | (exact LI.z (fun h => absurd h (by decide))) | (exact absurd hf_ (by omega)) | omega) | (unfold NBP; (try simp only [Ks178]); omega) | (unfold NBQ; (try simp only [Ks178]); omega) | omega | (have zz_ := fz_z (by assumption); omega) | (split <;> omega) | done)), ?_⟩
                intro v195 hv195 q195
                unfold rng at hv195
                unfold post_X14_wordEnd_t at q195
                obtain ⟨q195_1, q195_2, q195_3, q195_4⟩ := q195
                (try simp only [Ks178, NBP, NBQ] at q195_1 q195_2 q195_3 q195_4)
                have w_ : rF σ 0 29 < v195 := by
                  have et : rA s178 1026 (rF σ 0 29) = rA σ 1026 (rF σ 0 29) := (show ∀ i, rA s178 1026 i = rA σ 1026 i by assumption) _
                  have hl := (by first | exact q141_3 ⟨by omega, by decide⟩ | exact q151_3 ⟨by omega, by decide⟩)
                  exact q195_4 ⟨by omega, by rw [et]; exact hl.2⟩
                obtain ⟨gu5, Xu6⟩ := EC_32 (P := fz s178 = 0) v195 Gu4 O178 (fun hf => by omega)
                have O178u7 : Im (fz s178 = 0) _ := fun hf => (Xu6 hf).2.1
                have Ku8 : Im (fz s178 = 0) (GK g gu5 (rF σ (rR σ 7) 7) (rF s178 (rR σ 7) 7) 0) := fun hf => GK.kc (Ku3 hf) (Xu6 hf).2.2 (by omega)
                have Gu9 : Im (fz s178 = 0) _ := fun hf => (Xu6 hf).1
                exact (by (try simp only [post_X14_readPrimary, reduceIte, and_true, true_and, and_false, false_and, and_self, Nat.reduceEqDiff, fz_sF29, rF_sF, rA_sF, rR_sF, tr_sF, rNMp_sF, PNp_sF, GS_F29, OP_F29, NR_F29, LI_F29, RG_l29, RG_r29, TPRp_sF29, WNp_sF29, VMp_sF29, KYp_sF29, PPp_sF29, WFp_sF29, CCp_sF29, rk_n0 hp_2, Ks178]); (all_goals (repeat' (first | with_reducible intro _ | with_reducible apply And.intro | with_reducible refine Exists.intro gu5 ?_ | with_reducible refine Im.and ?_ ?_))); all_goals (first | assumption | trivial | ((with_reducible refine Im.i fun hf_ => ?_); first | exact (A178 hf_) | exact (Gu9 hf_) | exact (Ku8 hf_) | exact (O178u7 hf_).cst | exact ok1.i | (exact LI.z (fun h => absurd h (by decide))) | (exact absurd hf_ (by omega)) | omega) | (unfold NBP; (try simp only [reduceIte, and_true, true_and, and_false, false_and, and_self, Nat.reduceEqDiff, fz_sF29, rF_sF, rA_sF, rR_sF, tr_sF, rNMp_sF, PNp_sF, GS_F29, OP_F29, NR_F29, LI_F29, RG_l29, RG_r29, TPRp_sF29, WNp_sF29, VMp_sF29, KYp_sF29, PPp_sF29, WFp_sF29, CCp_sF29, rk_n0 hp_2, Ks178]); omega) | (unfold NBQ; (try simp only [reduceIte, and_true, true_and, and_false, false_and, and_self, Nat.reduceEqDiff, fz_sF29, rF_sF, rA_sF, rR_sF, tr_sF, rNMp_sF, PNp_sF, GS_F29, OP_F29, NR_F29, LI_F29, RG_l29, RG_r29, TPRp_sF29, WNp_sF29, VMp_sF29, KYp_sF29, PPp_sF29, WFp_sF29, CCp_sF29, rk_n0 hp_2, Ks178]); omega) | omega | (have zz_ := fz_z (by assumption); omega) | (split <;> omega) | done))
              · refine ⟨(by (try simp only [pre_X14_node_t]); (all_goals (repeat' (first | with_reducible intro _ | with_reducible apply And.intro | with_reducible refine Exists.intro g ?_ | with_reducible refine Im.and ?_ ?_))); all_goals (first | assumption | trivial | ((with_reducible refine Im.i fun hf_ => ?_); first | exact ((fun _ => RG.rf) hf_) | exact (hp_8 hf_) | exact ((fun _ => GK.rf) hf_) | exact ok1.i | (exact LI.z (fun h => absurd h (by decide))) | (exact absurd hf_ (by omega)) | omega) | (unfold NBP; omega) | (unfold NBQ; omega) | omega | (have zz_ := fz_z (by assumption); omega) | (split <;> omega) | done)), ?_⟩
                intro v178 s178 hv178 Ws178 e178_0 e178_1 e178_2 e178_3 e178_4 e178_5 e178_6 e178_7 e178_8 e178_9 e178_10 e178_11 e178_12 e178_13 e178_14 e178_15 e178_16 e178_17 e178_18 e178_19 e178_20 e178_21 e178_22 e178_23 e178_24 e178_25 e178_26 q178
                unfold rng at hv178
                unfold post_X14_node_t at q178
                obtain ⟨q178_1, q178_2, q178_3, q178_4, q178_5, q178_6, q178_7, q178_8, q178_9, q178_10⟩ := q178
                (try simp only [NBP, NBQ] at q178_1 q178_2 q178_3 q178_4 q178_5 q178_6 q178_7 q178_8 q178_9 q178_10 e178_0 e178_1 e178_2 e178_3 e178_4 e178_5 e178_6 e178_7 e178_8 e178_9 e178_10 e178_11 e178_12 e178_13 e178_14 e178_15 e178_16 e178_17 e178_18 e178_19 e178_20 e178_21 e178_22 e178_23 e178_24 e178_25 e178_26)
                have Ks178 : rR s178 7 = rR σ 7 := by first | assumption | ((try simp only [rR_sF, rR_sA, rR_sT, rR_sL] at e178_0 e178_1 e178_2 e178_3 e178_4 e178_5 e178_6 e178_7 e178_8 e178_9 e178_10 e178_11 e178_12 e178_13 e178_14 e178_15 e178_16 e178_17 e178_18 e178_19 e178_20 e178_21 e178_22 e178_23 e178_24 e178_25 e178_26); omega)
                have zr178 := fz_rng s178
                have zc178 : fz s178 = 0 → fz σ = 0 := fun hf => by omega
                have A178 : Im (fz s178 = 0) (RG σ s178 (rR σ 7) 0) := fun hf => RG.trk hp_2 ((fun _ => RG.rf) (zc178 hf)) q178_3 (Or.inr (Or.inl rfl))
                obtain ⟨g178, X178⟩ := EN_31 (P := fz s178 = 0) (rF σ 0 29) (rF σ 0 31) hp_2 (fun hf => hp_8 (zc178 hf)) (fun hf => q178_3) q178_1 q178_2 q178_4 q178_5 q178_6 q178_9 (fun hf => by (try simp only [rF_sT, rF_sA]); (repeat' (with_reducible apply And.intro)) <;> first | trivial | omega)
                have Ku10 : Im (fz s178 = 0) (GK g g178 (rF σ (rR σ 7) 7) (rF s178 (rR σ 7) 7) 0) := fun hf => GK.gs ((fun _ => GK.rf) (zc178 hf)) (X178 hf).2.1
                have Gu11 : Im (fz s178 = 0) _ := fun hf => (X178 hf).1
                have O178 : Im (fz s178 = 0) _ := fun hf => (X178 hf).2.2.1
                have rNMp_178 := e178_0 hp_5; clear e178_0
                have TPRp_178 := e178_1 hC1; clear e178_1
                have WNp_178 := e178_2 hp_6; clear e178_2
                have CCp_178 := e178_3 hp_3; clear e178_3
                intro hr_; unfold rng at hr_
                intro hr_; unfold rng at hr_
                refine ⟨(by (try simp only [pre_X14_wordEnd_t, Ks178]); (all_goals (repeat' (first | with_reducible intro _ | with_reducible apply And.intro | with_reducible refine Exists.intro g178 ?_ | with_reducible refine Im.and ?_ ?_))); all_goals (first | assumption | trivial | ((with_reducible refine Im.i fun hf_ => ?_); first | exact (A178 hf_) | exact (Gu11 hf_) | exact (Ku10 hf_) | exact (O178 hf_).cst | exact ok1.i | (exact LI.z (fun h => absurd h (by decide))) | (exact absurd hf_ (by omega)) | omega) | (unfold NBP; (try simp only [Ks178]); omega) | (unfold NBQ; (try simp only [Ks178]); omega) | omega | (have zz_ := fz_z (by assumption); omega) | (split <;> omega) | done)), ?_⟩
                intro v195 hv195 q195
                unfold rng at hv195
                unfold post_X14_wordEnd_t at q195
                obtain ⟨q195_1, q195_2, q195_3, q195_4⟩ := q195
                (try simp only [Ks178, NBP, NBQ] at q195_1 q195_2 q195_3 q195_4)
                have w_ : rF σ 0 29 < v195 := by
                  have et : rA s178 1026 (rF σ 0 29) = rA σ 1026 (rF σ 0 29) := (show ∀ i, rA s178 1026 i = rA σ 1026 i by assumption) _
                  have hl := (by first | exact q141_3 ⟨by omega, by decide⟩ | exact q151_3 ⟨by omega, by decide⟩)
                  exact q195_4 ⟨by omega, by rw [et]; exact hl.2⟩
                obtain ⟨gu12, Xu13⟩ := EC_31 (P := fz s178 = 0) v195 Gu11 O178 (fun hf => by omega)
                have O178u14 : Im (fz s178 = 0) _ := fun hf => (Xu13 hf).2.1
                have Ku15 : Im (fz s178 = 0) (GK g gu12 (rF σ (rR σ 7) 7) (rF s178 (rR σ 7) 7) 0) := fun hf => GK.kc (Ku10 hf) (Xu13 hf).2.2 (by omega)
                have Gu16 : Im (fz s178 = 0) _ := fun hf => (Xu13 hf).1
                exact (by (try simp only [post_X14_readPrimary, reduceIte, and_true, true_and, and_false, false_and, and_self, Nat.reduceEqDiff, fz_sF29, rF_sF, rA_sF, rR_sF, tr_sF, rNMp_sF, PNp_sF, GS_F29, OP_F29, NR_F29, LI_F29, RG_l29, RG_r29, TPRp_sF29, WNp_sF29, VMp_sF29, KYp_sF29, PPp_sF29, WFp_sF29, CCp_sF29, rk_n0 hp_2, Ks178]); (all_goals (repeat' (first | with_reducible intro _ | with_reducible apply And.intro | with_reducible refine Exists.intro gu12 ?_ | with_reducible refine Im.and ?_ ?_))); all_goals (first | assumption | trivial | ((with_reducible refine Im.i fun hf_ => ?_); first | exact (A178 hf_) | exact (Gu16 hf_) | exact (Ku15 hf_) | exact (O178u14 hf_).cst | exact ok1.i | (exact LI.z (fun h => absurd h (by decide))) | (exact absurd hf_ (by omega)) | omega) | (unfold NBP; (try simp only [reduceIte, and_true, true_and, and_false, false_and, and_self, Nat.reduceEqDiff, fz_sF29, rF_sF, rA_sF, rR_sF, tr_sF, rNMp_sF, PNp_sF, GS_F29, OP_F29, NR_F29, LI_F29, RG_l29, RG_r29, TPRp_sF29, WNp_sF29, VMp_sF29, KYp_sF29, PPp_sF29, WFp_sF29, CCp_sF29, rk_n0 hp_2, Ks178]); omega) | (unfold NBQ; (try simp only [reduceIte, and_true, true_and, and_false, false_and, and_self, Nat.reduceEqDiff, fz_sF29, rF_sF, rA_sF, rR_sF, tr_sF, rNMp_sF, PNp_sF, GS_F29, OP_F29, NR_F29, LI_F29, RG_l29, RG_r29, TPRp_sF29, WNp_sF29, VMp_sF29, KYp_sF29, PPp_sF29, WFp_sF29, CCp_sF29, rk_n0 hp_2, Ks178]); omega) | omega | (have zz_ := fz_z (by assumption); omega) | (split <;> omega) | done))
            · refine ⟨(by (try simp only [pre_X14_isWord_t]); (all_goals (repeat' (first | with_reducible intro _ | with_reducible apply And.intro | with_reducible refine Exists.intro g ?_ | with_reducible refine Im.and ?_ ?_))); all_goals (first | assumption | trivial | ((with_reducible refine Im.i fun hf_ => ?_); first | exact ((fun _ => RG.rf) hf_) | exact (hp_8 hf_) | exact ((fun _ => GK.rf) hf_) | exact ok1.i | (exact LI.z (fun h => absurd h (by decide))) | (exact absurd hf_ (by omega)) | omega) | (unfold NBP; omega) | (unfold NBQ; omega) | omega | (have zz_ := fz_z (by assumption); omega) | (split <;> omega) | done)), ?_⟩
              intro v151 hv151 q151
              unfold rng at hv151
              unfold post_X14_isWord_t at q151
              obtain ⟨q151_1, q151_2, q151_3⟩ := q151
              (try simp only [NBP, NBQ] at q151_1 q151_2 q151_3)
              refine ⟨fun c154 => ?_, fun c154 => ?_⟩
              · refine ⟨(by (try simp only [pre_X14_function_t]); (all_goals (repeat' (first | with_reducible intro _ | with_reducible apply And.intro | with_reducible refine Exists.intro g ?_ | with_reducible refine Im.and ?_ ?_))); all_goals (first | assumption | trivial | ((with_reducible refine Im.i fun hf_ => ?_); first | exact ((fun _ => RG.rf) hf_) | exact (hp_8 hf_) | exact ((fun _ => GK.rf) hf_) | exact ok1.i | (exact LI.z (fun h => absurd h (by decide))) | (exact absurd hf_ (by omega)) | omega) | (unfold NBP; omega) | (unfold NBQ; omega) | omega | (have zz_ := fz_z (by assumption); omega) | (split <;> omega) | done)), ?_⟩
                intro v204 hv204 q204
                unfold rng at hv204
                unfold post_X14_function_t at q204
                obtain ⟨q204_1, q204_2, q204_3⟩ := q204
                (try simp only [NBP, NBQ] at q204_1 q204_2 q204_3)
                refine ⟨fun c207 => ?_, fun c207 => ?_⟩
                · refine ⟨(by (try simp only [pre_X14_isWord_t]); (all_goals (repeat' (first | with_reducible intro _ | with_reducible apply And.intro | with_reducible refine Exists.intro g ?_ | with_reducible refine Im.and ?_ ?_))); all_goals (first | assumption | trivial | ((with_reducible refine Im.i fun hf_ => ?_); first | exact ((fun _ => RG.rf) hf_) | exact (hp_8 hf_) | exact ((fun _ => GK.rf) hf_) | exact ok1.i | (exact LI.z (fun h => absurd h (by decide))) | (exact absurd hf_ (by omega)) | omega) | (unfold NBP; omega) | (unfold NBQ; omega) | omega | (have zz_ := fz_z (by assumption); omega) | (split <;> omega) | done)), ?_⟩
                  intro v273 hv273 q273
                  unfold rng at hv273
                  unfold post_X14_isWord_t at q273
                  obtain ⟨q273_1, q273_2, q273_3⟩ := q273
                  (try simp only [NBP, NBQ] at q273_1 q273_2 q273_3)
                  refine ⟨fun c276 => ?_, fun c276 => ?_⟩
                  · refine ⟨g, ?_⟩
                    refine ⟨36, ?_⟩
                    refine ⟨(by (try simp only [pre_X14_readCall]); (all_goals (repeat' (first | with_reducible intro _ | with_reducible apply And.intro | with_reducible refine Exists.intro g ?_ | with_reducible refine Im.and ?_ ?_))); all_goals (first | assumption | trivial | ((with_reducible refine Im.i fun hf_ => ?_); first | exact ((fun _ => RG.rf) hf_) | exact (hp_8 hf_) | exact ((fun _ => GK.rf) hf_) | exact ok1.i | (exact LI.z (fun h => absurd h (by decide))) | (exact absurd hf_ (by omega)) | omega) | (unfold NBP; omega) | (unfold NBQ; omega) | omega | (have zz_ := fz_z (by assumption); omega) | (split <;> omega) | done)), ?_⟩
                    refine ⟨(by (try simp only [rk_X14_readCall]); (all_goals (repeat' (first | with_reducible intro _ | with_reducible apply And.intro | with_reducible refine Exists.intro g ?_ | with_reducible refine Im.and ?_ ?_))); all_goals (first | assumption | trivial | ((with_reducible refine Im.i fun hf_ => ?_); first | exact ((fun _ => RG.rf) hf_) | exact (hp_8 hf_) | exact ((fun _ => GK.rf) hf_) | exact ok1.i | (exact LI.z (fun h => absurd h (by decide))) | (exact absurd hf_ (by omega)) | omega) | (unfold NBP; omega) | (unfold NBQ; omega) | omega | (have zz_ := fz_z (by assumption); omega) | (split <;> omega) | done)), ?_⟩
                    intro v293 s293 hv293 Ws293 e293_0 e293_1 e293_2 e293_3 e293_4 e293_5 e293_6 e293_7 e293_8 e293_9 q293
                    unfold rng at hv293
                    unfold post_X14_readCall at q293
                    obtain ⟨q293_1, q293_2, q293_3, q293_4, q293_5, q293_6, q293_7, q293_8, q293_9⟩ := q293
                    (try simp only [NBP, NBQ] at q293_1 q293_2 q293_3 q293_4 q293_5 q293_6 q293_7 q293_8 q293_9 e293_0 e293_1 e293_2 e293_3 e293_4 e293_5 e293_6 e293_7 e293_8 e293_9)
                    have Ks293 : rR s293 7 = rR σ 7 := by first | assumption | ((try simp only [rR_sF, rR_sA, rR_sT, rR_sL] at e293_0 e293_1 e293_2 e293_3 e293_4 e293_5 e293_6 e293_7 e293_8 e293_9); omega)
                    have zr293 := fz_rng s293
                    have zc293 : fz s293 = 0 → fz σ = 0 := fun hf => by omega
                    have A293 : Im (fz s293 = 0) (RG σ s293 (rR σ 7) 0) := fun hf => RG.trk hp_2 ((fun _ => RG.rf) (zc293 hf)) (q293_8 (by omega)) (Or.inr (Or.inl rfl))
                    obtain ⟨g293, X293⟩ := q293_9
                    have Ku17 : Im (fz s293 = 0) (GK g g293 (rF σ (rR σ 7) 7) (rF s293 (rR σ 7) 7) 0) := fun hf => GK.trans ((fun _ => GK.rf) (zc293 hf)) ((X293 hf).2.1) (Or.inr (Or.inl rfl))
                    have Gu18 : Im (fz s293 = 0) (GS s293 (rR σ 7) g293) := fun hf => (X293 hf).1
                    have r293 : Im (fz s293 = 0) _ := fun hf => (X293 hf).2.2.1
                    have TPRp_293 := e293_0 hC1; clear e293_0
                    have CCp_293 := e293_1 hp_3; clear e293_1
                    exact (by (try simp only [post_X14_readPrimary, Ks293]); (all_goals (repeat' (first | with_reducible intro _ | with_reducible apply And.intro | with_reducible refine Exists.intro g293 ?_ | with_reducible refine Im.and ?_ ?_))); all_goals (first | assumption | trivial | ((with_reducible refine Im.i fun hf_ => ?_); first | exact (A293 hf_) | exact (Gu18 hf_) | exact (Ku17 hf_) | exact (r293 hf_).cst | exact ok1.i | (exact LI.z (fun h => absurd h (by decide))) | (exact absurd hf_ (by omega)) | omega) | (unfold NBP; (try simp only [Ks293]); omega) | (unfold NBQ; (try simp only [Ks293]); omega) | omega | (have zz_ := fz_z (by assumption); omega) | (split <;> omega) | done))
                  · refine ⟨g, ?_⟩
                    refine ⟨36, ?_⟩
                    refine ⟨(by (try simp only [pre_X14_readCall]); (all_goals (repeat' (first | with_reducible intro _ | with_reducible apply And.intro | with_reducible refine Exists.intro g ?_ | with_reducible refine Im.and ?_ ?_))); all_goals (first | assumption | trivial | ((with_reducible refine Im.i fun hf_ => ?_); first | exact ((fun _ => RG.rf) hf_) | exact (hp_8 hf_) | exact ((fun _ => GK.rf) hf_) | exact ok1.i | (exact LI.z (fun h => absurd h (by decide))) | (exact absurd hf_ (by omega)) | omega) | (unfold NBP; omega) | (unfold NBQ; omega) | omega | (have zz_ := fz_z (by assumption); omega) | (split <;> omega) | done)), ?_⟩
                    refine ⟨(by (try simp only [rk_X14_readCall]); (all_goals (repeat' (first | with_reducible intro _ | with_reducible apply And.intro | with_reducible refine Exists.intro g ?_ | with_reducible refine Im.and ?_ ?_))); all_goals (first | assumption | trivial | ((with_reducible refine Im.i fun hf_ => ?_); first | exact ((fun _ => RG.rf) hf_) | exact (hp_8 hf_) | exact ((fun _ => GK.rf) hf_) | exact ok1.i | (exact LI.z (fun h => absurd h (by decide))) | (exact absurd hf_ (by omega)) | omega) | (unfold NBP; omega) | (unfold NBQ; omega) | omega | (have zz_ := fz_z (by assumption); omega) | (split <;> omega) | done)), ?_⟩
                    intro v283 s283 hv283 Ws283 e283_0 e283_1 e283_2 e283_3 e283_4 e283_5 e283_6 e283_7 e283_8 e283_9 q283
                    unfold rng at hv283
                    unfold post_X14_readCall at q283
                    obtain ⟨q283_1, q283_2, q283_3, q283_4, q283_5, q283_6, q283_7, q283_8, q283_9⟩ := q283
                    (try simp only [NBP, NBQ] at q283_1 q283_2 q283_3 q283_4 q283_5 q283_6 q283_7 q283_8 q283_9 e283_0 e283_1 e283_2 e283_3 e283_4 e283_5 e283_6 e283_7 e283_8 e283_9)
                    have Ks283 : rR s283 7 = rR σ 7 := by first | assumption | ((try simp only [rR_sF, rR_sA, rR_sT, rR_sL] at e283_0 e283_1 e283_2 e283_3 e283_4 e283_5 e283_6 e283_7 e283_8 e283_9); omega)
                    have zr283 := fz_rng s283
                    have zc283 : fz s283 = 0 → fz σ = 0 := fun hf => by omega
                    have A283 : Im (fz s283 = 0) (RG σ s283 (rR σ 7) 0) := fun hf => RG.trk hp_2 ((fun _ => RG.rf) (zc283 hf)) (q283_8 (by omega)) (Or.inr (Or.inl rfl))
                    obtain ⟨g283, X283⟩ := q283_9
                    have Ku19 : Im (fz s283 = 0) (GK g g283 (rF σ (rR σ 7) 7) (rF s283 (rR σ 7) 7) 0) := fun hf => GK.trans ((fun _ => GK.rf) (zc283 hf)) ((X283 hf).2.1) (Or.inr (Or.inl rfl))
                    have Gu20 : Im (fz s283 = 0) (GS s283 (rR σ 7) g283) := fun hf => (X283 hf).1
                    have r283 : Im (fz s283 = 0) _ := fun hf => (X283 hf).2.2.1
                    have TPRp_283 := e283_0 hC1; clear e283_0
                    have CCp_283 := e283_1 hp_3; clear e283_1
                    exact (by (try simp only [post_X14_readPrimary, Ks283]); (all_goals (repeat' (first | with_reducible intro _ | with_reducible apply And.intro | with_reducible refine Exists.intro g283 ?_ | with_reducible refine Im.and ?_ ?_))); all_goals (first | assumption | trivial | ((with_reducible refine Im.i fun hf_ => ?_); first | exact (A283 hf_) | exact (Gu20 hf_) | exact (Ku19 hf_) | exact (r283 hf_).cst | exact ok1.i | (exact LI.z (fun h => absurd h (by decide))) | (exact absurd hf_ (by omega)) | omega) | (unfold NBP; (try simp only [Ks283]); omega) | (unfold NBQ; (try simp only [Ks283]); omega) | omega | (have zz_ := fz_z (by assumption); omega) | (split <;> omega) | done))
                · refine ⟨(by (try simp only [pre_X14_function_t]); (all_goals (repeat' (first | with_reducible intro _ | with_reducible apply And.intro | with_reducible refine Exists.intro g ?_ | with_reducible refine Im.and ?_ ?_))); all_goals (first | assumption | trivial | ((with_reducible refine Im.i fun hf_ => ?_); first | exact ((fun _ => RG.rf) hf_) | exact (hp_8 hf_) | exact ((fun _ => GK.rf) hf_) | exact ok1.i | (exact LI.z (fun h => absurd h (by decide))) | (exact absurd hf_ (by omega)) | omega) | (unfold NBP; omega) | (unfold NBQ; omega) | omega | (have zz_ := fz_z (by assumption); omega) | (split <;> omega) | done)), ?_⟩
                  intro v214 hv214 q214
                  unfold rng at hv214
                  unfold post_X14_function_t at q214
                  obtain ⟨q214_1, q214_2, q214_3⟩ := q214
                  (try simp only [NBP, NBQ] at q214_1 q214_2 q214_3)
                  refine ⟨(by (try simp only [pre_X14_node_t]); (all_goals (repeat' (first | with_reducible intro _ | with_reducible apply And.intro | with_reducible refine Exists.intro g ?_ | with_reducible refine Im.and ?_ ?_))); all_goals (first | assumption | trivial | ((with_reducible refine Im.i fun hf_ => ?_); first | exact ((fun _ => RG.rf) hf_) | exact (hp_8 hf_) | exact ((fun _ => GK.rf) hf_) | exact ok1.i | (exact LI.z (fun h => absurd h (by decide))) | (exact absurd hf_ (by omega)) | omega) | (unfold NBP; omega) | (unfold NBQ; omega) | omega | (have zz_ := fz_z (by assumption); omega) | (split <;> omega) | done)), ?_⟩
                  intro v219 s219 hv219 Ws219 e219_0 e219_1 e219_2 e219_3 e219_4 e219_5 e219_6 e219_7 e219_8 e219_9 e219_10 e219_11 e219_12 e219_13 e219_14 e219_15 e219_16 e219_17 e219_18 e219_19 e219_20 e219_21 e219_22 e219_23 e219_24 e219_25 e219_26 q219
                  unfold rng at hv219
                  unfold post_X14_node_t at q219
                  obtain ⟨q219_1, q219_2, q219_3, q219_4, q219_5, q219_6, q219_7, q219_8, q219_9, q219_10⟩ := q219
                  (try simp only [NBP, NBQ] at q219_1 q219_2 q219_3 q219_4 q219_5 q219_6 q219_7 q219_8 q219_9 q219_10 e219_0 e219_1 e219_2 e219_3 e219_4 e219_5 e219_6 e219_7 e219_8 e219_9 e219_10 e219_11 e219_12 e219_13 e219_14 e219_15 e219_16 e219_17 e219_18 e219_19 e219_20 e219_21 e219_22 e219_23 e219_24 e219_25 e219_26)
                  have Ks219 : rR s219 7 = rR σ 7 := by first | assumption | ((try simp only [rR_sF, rR_sA, rR_sT, rR_sL] at e219_0 e219_1 e219_2 e219_3 e219_4 e219_5 e219_6 e219_7 e219_8 e219_9 e219_10 e219_11 e219_12 e219_13 e219_14 e219_15 e219_16 e219_17 e219_18 e219_19 e219_20 e219_21 e219_22 e219_23 e219_24 e219_25 e219_26); omega)
                  have zr219 := fz_rng s219
                  have zc219 : fz s219 = 0 → fz σ = 0 := fun hf => by omega
                  have A219 : Im (fz s219 = 0) (RG σ s219 (rR σ 7) 0) := fun hf => RG.trk hp_2 ((fun _ => RG.rf) (zc219 hf)) q219_3 (Or.inr (Or.inl rfl))
                  obtain ⟨g219, X219⟩ := EN_38 (P := fz s219 = 0) (rF σ 0 29) (rF σ 0 31) hp_2 (fun hf => hp_8 (zc219 hf)) (fun hf => q219_3) q219_1 q219_2 q219_4 q219_5 q219_6 q219_9 (fun hf => by (try simp only [rF_sT, rF_sA]); (repeat' (with_reducible apply And.intro)) <;> first | trivial | omega)
                  have Ku21 : Im (fz s219 = 0) (GK g g219 (rF σ (rR σ 7) 7) (rF s219 (rR σ 7) 7) 0) := fun hf => GK.gs ((fun _ => GK.rf) (zc219 hf)) (X219 hf).2.1
                  have Gu22 : Im (fz s219 = 0) _ := fun hf => (X219 hf).1
                  have O219 : Im (fz s219 = 0) _ := fun hf => (X219 hf).2.2.1
                  have rNMp_219 := e219_0 hp_5; clear e219_0
                  have TPRp_219 := e219_1 hC1; clear e219_1
                  have WNp_219 := e219_2 hp_6; clear e219_2
                  have CCp_219 := e219_3 hp_3; clear e219_3
                  intro hr_; unfold rng at hr_
                  intro hr_; unfold rng at hr_
                  refine ⟨(by (try simp only [pre_X14_wordEnd_t, Ks219]); (all_goals (repeat' (first | with_reducible intro _ | with_reducible apply And.intro | with_reducible refine Exists.intro g219 ?_ | with_reducible refine Im.and ?_ ?_))); all_goals (first | assumption | trivial | ((with_reducible refine Im.i fun hf_ => ?_); first | exact (A219 hf_) | exact (Gu22 hf_) | exact (Ku21 hf_) | exact (O219 hf_).cst | exact ok1.i | (exact LI.z (fun h => absurd h (by decide))) | (exact absurd hf_ (by omega)) | omega) | (unfold NBP; (try simp only [Ks219]); omega) | (unfold NBQ; (try simp only [Ks219]); omega) | omega | (have zz_ := fz_z (by assumption); omega) | (split <;> omega) | done)), ?_⟩
                  intro v236 hv236 q236
                  unfold rng at hv236
                  unfold post_X14_wordEnd_t at q236
                  obtain ⟨q236_1, q236_2, q236_3, q236_4⟩ := q236
                  (try simp only [Ks219, NBP, NBQ] at q236_1 q236_2 q236_3 q236_4)
                  have w_ : rF σ 0 29 < v236 := by
                    have et : rA s219 1026 (rF σ 0 29) = rA σ 1026 (rF σ 0 29) := (show ∀ i, rA s219 1026 i = rA σ 1026 i by assumption) _
                    have hl := q204_3 (by omega)
                    exact q236_4 ⟨by omega, by rw [et]; exact hl.2⟩
                  refine ⟨(by (try simp only [pre_X14_need, reduceIte, and_true, true_and, and_false, false_and, and_self, Nat.reduceEqDiff, fz_sF29, rF_sF, rA_sF, rR_sF, tr_sF, rNMp_sF, PNp_sF, GS_F29, OP_F29, NR_F29, LI_F29, RG_l29, RG_r29, TPRp_sF29, WNp_sF29, VMp_sF29, KYp_sF29, PPp_sF29, WFp_sF29, CCp_sF29, rk_n0 hp_2, Ks219]); (all_goals (repeat' (first | with_reducible intro _ | with_reducible apply And.intro | with_reducible refine Exists.intro g219 ?_ | with_reducible refine Im.and ?_ ?_))); all_goals (first | assumption | trivial | ((with_reducible refine Im.i fun hf_ => ?_); first | exact (A219 hf_) | exact (Gu22 hf_) | exact (Ku21 hf_) | exact (O219 hf_).cst | exact ok1.i | (exact LI.z (fun h => absurd h (by decide))) | (exact absurd hf_ (by omega)) | omega) | (unfold NBP; (try simp only [reduceIte, and_true, true_and, and_false, false_and, and_self, Nat.reduceEqDiff, fz_sF29, rF_sF, rA_sF, rR_sF, tr_sF, rNMp_sF, PNp_sF, GS_F29, OP_F29, NR_F29, LI_F29, RG_l29, RG_r29, TPRp_sF29, WNp_sF29, VMp_sF29, KYp_sF29, PPp_sF29, WFp_sF29, CCp_sF29, rk_n0 hp_2, Ks219]); omega) | (unfold NBQ; (try simp only [reduceIte, and_true, true_and, and_false, false_and, and_self, Nat.reduceEqDiff, fz_sF29, rF_sF, rA_sF, rR_sF, tr_sF, rNMp_sF, PNp_sF, GS_F29, OP_F29, NR_F29, LI_F29, RG_l29, RG_r29, TPRp_sF29, WNp_sF29, VMp_sF29, KYp_sF29, PPp_sF29, WFp_sF29, CCp_sF29, rk_n0 hp_2, Ks219]); omega) | omega | (have zz_ := fz_z (by assumption); omega) | (split <;> omega) | done)), ?_⟩
                  intro s245 Ws245 e245_0 e245_1 e245_2 e245_3 e245_4 e245_5 e245_6 e245_7 e245_8 e245_9 e245_10 e245_11 e245_12 e245_13 e245_14 e245_15 e245_16 e245_17 e245_18 e245_19 e245_20 e245_21 e245_22 e245_23 e245_24 e245_25 R245 q245
                  have q245 := dig_need q245 (by (try simp only [reduceIte, and_true, true_and, and_false, false_and, and_self, Nat.reduceEqDiff, fz_sF29, rF_sF, rA_sF, rR_sF, tr_sF, rNMp_sF, PNp_sF, GS_F29, OP_F29, NR_F29, LI_F29, RG_l29, RG_r29, TPRp_sF29, WNp_sF29, VMp_sF29, KYp_sF29, PPp_sF29, WFp_sF29, CCp_sF29, rk_n0 hp_2, Ks219]); omega)
                  obtain ⟨q245_1, q245_2, q245_3, q245_4⟩ := q245
                  (try simp only [reduceIte, and_true, true_and, and_false, false_and, and_self, Nat.reduceEqDiff, fz_sF29, rF_sF, rA_sF, rR_sF, tr_sF, rNMp_sF, PNp_sF, GS_F29, OP_F29, NR_F29, LI_F29, RG_l29, RG_r29, TPRp_sF29, WNp_sF29, VMp_sF29, KYp_sF29, PPp_sF29, WFp_sF29, CCp_sF29, rk_n0 hp_2, Ks219, NBP, NBQ] at q245_1 q245_2 q245_3 q245_4 e245_0 e245_1 e245_2 e245_3 e245_4 e245_5 e245_6 e245_7 e245_8 e245_9 e245_10 e245_11 e245_12 e245_13 e245_14 e245_15 e245_16 e245_17 e245_18 e245_19 e245_20 e245_21 e245_22 e245_23 e245_24 e245_25 R245)
                  have Ks245 : rR s245 7 = rR σ 7 := by first | assumption | ((try simp only [rR_sF, rR_sA, rR_sT, rR_sL] at e245_0 e245_1 e245_2 e245_3 e245_4 e245_5 e245_6 e245_7 e245_8 e245_9 e245_10 e245_11 e245_12 e245_13 e245_14 e245_15 e245_16 e245_17 e245_18 e245_19 e245_20 e245_21 e245_22 e245_23 e245_24 e245_25 R245); omega)
                  have zr245 := fz_rng s245
                  have zc245 : fz s245 = 0 → fz s219 = 0 := fun hf => by omega
                  have A245 : Im (fz s245 = 0) (RG σ s245 (rR σ 7) 0) := fun hf => RG.trk hp_2 (A219 (zc245 hf)) R245 (Or.inr (Or.inl rfl))
                  have O219u23 : Im (fz s245 = 0) _ := fun hf => OP.gk0 (O219 (zc245 hf)) (GK.up (g := g219) (N := rF s219 (rR σ 7) 7) (N' := rF s245 (rR σ 7) 7) (c := 0) (by first | assumption | omega | (simp only [rF_sT, rF_sA]; omega)))
                  have Ku24 : Im (fz s245 = 0) (GK g g219 (rF σ (rR σ 7) 7) (rF s245 (rR σ 7) 7) 0) := fun hf => GK.trans (Ku21 (zc245 hf)) (GK.up (N := rF s219 (rR σ 7) 7) (N' := rF s245 (rR σ 7) 7) (c := 0) (by first | assumption | omega | (simp only [rF_sT, rF_sA]; omega))) (Or.inr (Or.inl rfl))
                  have Gu25 : Im (fz s245 = 0) (GS s245 (rR σ 7) g219) := fun hf => GS.mv hp_2 (Gu22 (zc245 hf)) R245 (by first | assumption | omega | (simp only [rF_sT, rF_sA]; omega)) (by first | (exact Int.le_of_eq (Eq.symm (by assumption))) | omega | (simp only [rF_sT, rF_sA]; omega))
                  have rNMp_245 := e245_0 rNMp_219; clear e245_0
                  have TPRp_245 := e245_1 TPRp_219; clear e245_1
                  have WNp_245 := e245_2 WNp_219; clear e245_2
                  have PNp_245 := e245_3 q219_10; clear e245_3
                  have CCp_245 := e245_4 CCp_219; clear e245_4
                  refine ⟨g219, ?_⟩
                  refine ⟨(by (try simp only [pre_X14_readArg, Ks245]); (all_goals (repeat' (first | with_reducible intro _ | with_reducible apply And.intro | with_reducible refine Exists.intro g219 ?_ | with_reducible refine Im.and ?_ ?_))); all_goals (first | assumption | trivial | ((with_reducible refine Im.i fun hf_ => ?_); first | exact (A245 hf_) | exact (Gu25 hf_) | exact (Ku24 hf_) | exact (O219u23 hf_).cst | exact ok1.i | (exact LI.z (fun h => absurd h (by decide))) | (exact absurd hf_ (by omega)) | omega) | (unfold NBP; (try simp only [Ks245]); omega) | (unfold NBQ; (try simp only [Ks245]); omega) | omega | (have zz_ := fz_z (by assumption); omega) | (split <;> omega) | done)), ?_⟩
                  refine ⟨(by (try simp only [rk_X14_readArg, Ks245]); (all_goals (repeat' (first | with_reducible intro _ | with_reducible apply And.intro | with_reducible refine Exists.intro g219 ?_ | with_reducible refine Im.and ?_ ?_))); all_goals (first | assumption | trivial | ((with_reducible refine Im.i fun hf_ => ?_); first | exact (A245 hf_) | exact (Gu25 hf_) | exact (Ku24 hf_) | exact (O219u23 hf_).cst | exact ok1.i | (exact LI.z (fun h => absurd h (by decide))) | (exact absurd hf_ (by omega)) | omega) | (unfold NBP; (try simp only [Ks245]); omega) | (unfold NBQ; (try simp only [Ks245]); omega) | omega | (have zz_ := fz_z (by assumption); omega) | (split <;> omega) | done)), ?_⟩
                  intro v257 s257 hv257 Ws257 e257_0 e257_1 e257_2 e257_3 e257_4 e257_5 e257_6 e257_7 e257_8 e257_9 q257
                  unfold rng at hv257
                  unfold post_X14_readArg at q257
                  obtain ⟨q257_1, q257_2, q257_3, q257_4, q257_5, q257_6, q257_7, q257_8, q257_9⟩ := q257
                  (try simp only [Ks245, NBP, NBQ] at q257_1 q257_2 q257_3 q257_4 q257_5 q257_6 q257_7 q257_8 q257_9 e257_0 e257_1 e257_2 e257_3 e257_4 e257_5 e257_6 e257_7 e257_8 e257_9)
                  have Ks257 : rR s257 7 = rR σ 7 := by first | assumption | ((try simp only [rR_sF, rR_sA, rR_sT, rR_sL] at e257_0 e257_1 e257_2 e257_3 e257_4 e257_5 e257_6 e257_7 e257_8 e257_9); omega)
                  have zr257 := fz_rng s257
                  have zc257 : fz s257 = 0 → fz s245 = 0 := fun hf => by omega
                  have A257 : Im (fz s257 = 0) (RG σ s257 (rR σ 7) 0) := fun hf => RG.trk hp_2 (A245 (zc257 hf)) (q257_8 (by omega)) (Or.inr (Or.inl rfl))
                  obtain ⟨g257, X257⟩ := q257_9
                  have O219u26 : Im (fz s257 = 0) _ := fun hf => OP.gk0 (O219u23 (zc257 hf)) ((X257 hf).2.1)
                  have Ku27 : Im (fz s257 = 0) (GK g g257 (rF σ (rR σ 7) 7) (rF s257 (rR σ 7) 7) 0) := fun hf => GK.trans (Ku24 (zc257 hf)) ((X257 hf).2.1) (Or.inr (Or.inl rfl))
                  have Gu28 : Im (fz s257 = 0) (GS s257 (rR σ 7) g257) := fun hf => (X257 hf).1
                  have r257 : Im (fz s257 = 0) _ := fun hf => (X257 hf).2.2.1
                  have TPRp_257 := e257_0 TPRp_245; clear e257_0
                  have CCp_257 := e257_1 CCp_245; clear e257_1
                  refine ⟨(by (try simp only [Ks257]); (all_goals (repeat' (first | with_reducible intro _ | with_reducible apply And.intro | with_reducible refine Exists.intro g257 ?_ | with_reducible refine Im.and ?_ ?_))); all_goals (first | assumption | trivial | ((with_reducible refine Im.i fun hf_ => ?_); first | exact (A257 hf_) | exact (Gu28 hf_) | exact (Ku27 hf_) | exact (O219u26 hf_).cst | exact (r257 hf_).cst | exact ok1.i | (exact LI.z (fun h => absurd h (by decide))) | (exact absurd hf_ (by omega)) | omega) | (unfold NBP; (try simp only [Ks257]); omega) | (unfold NBQ; (try simp only [Ks257]); omega) | omega | (have zz_ := fz_z (by assumption); omega) | (split <;> omega) | done)), ?_⟩
                  have A260 : Im (fz s257 = 0) (RG σ (sT s257 (rR σ 7) 2 v219 v257) (rR σ 7) 0) := fun hf => RG.tst (f := 2) (i := v219) (x := v257) hp_2 (A257 hf) (by decide) (by omega)
                  obtain ⟨gs260, Xs260⟩ := EH_2_38 (P := fz s257 = 0) hp_2 Gu28 O219u26 r257 (fun _ h => h) (fun hf => by omega)
                  have Ku29 : Im (fz s257 = 0) (GK g gs260 (rF σ (rR σ 7) 7) (rF s257 (rR σ 7) 7) 0) := fun hf => GK.ks (Ku27 hf) (Xs260 hf).2.2.2.1 (by omega) (by omega)
                  have Gu30 : Im (fz s257 = 0) _ := fun hf => (Xs260 hf).1
                  have O219u31 : Im (fz s257 = 0) _ := fun hf => (Xs260 hf).2.1
                  have L260u32 : Im (fz s257 = 0) _ := fun hf => (Xs260 hf).2.2.1
                  refine ⟨(by (try simp only [pre_X14_need, reduceIte, and_true, true_and, and_false, false_and, and_self, Nat.reduceEqDiff, fz_sA, rF_sA, rA_sA, rR_sA, rF_sT, rR_sT, sT_sF, fz_sT, rA_sT26 hp_2, rA_sT27 hp_2, rA_sT34 hp_2, rA_sT35 hp_2, rA_sT36 hp_2, rA_sT37 hp_2, rA_sT40 hp_2, TPRp_sT hp_2, WNp_sT hp_2, VMp_sT hp_2, KYp_sT hp_2, PPp_sT hp_2, WFp_sT hp_2, CCp_sT hp_2, rNMp_sT2, PNp_sT2, rk_n0 hp_2, Ks257]); (all_goals (repeat' (first | with_reducible intro _ | with_reducible apply And.intro | with_reducible refine Exists.intro gs260 ?_ | with_reducible refine Im.and ?_ ?_))); all_goals (first | assumption | trivial | ((with_reducible refine Im.i fun hf_ => ?_); first | exact (A260 hf_) | exact (Gu30 hf_) | exact (Ku29 hf_) | exact (O219u31 hf_).cst | exact (L260u32 hf_) | exact ok1.i | (exact LI.z (fun h => absurd h (by decide))) | (exact absurd hf_ (by omega)) | omega) | (unfold NBP; (try simp only [reduceIte, and_true, true_and, and_false, false_and, and_self, Nat.reduceEqDiff, fz_sA, rF_sA, rA_sA, rR_sA, rF_sT, rR_sT, sT_sF, fz_sT, rA_sT26 hp_2, rA_sT27 hp_2, rA_sT34 hp_2, rA_sT35 hp_2, rA_sT36 hp_2, rA_sT37 hp_2, rA_sT40 hp_2, TPRp_sT hp_2, WNp_sT hp_2, VMp_sT hp_2, KYp_sT hp_2, PPp_sT hp_2, WFp_sT hp_2, CCp_sT hp_2, rNMp_sT2, PNp_sT2, rk_n0 hp_2, Ks257]); omega) | (unfold NBQ; (try simp only [reduceIte, and_true, true_and, and_false, false_and, and_self, Nat.reduceEqDiff, fz_sA, rF_sA, rA_sA, rR_sA, rF_sT, rR_sT, sT_sF, fz_sT, rA_sT26 hp_2, rA_sT27 hp_2, rA_sT34 hp_2, rA_sT35 hp_2, rA_sT36 hp_2, rA_sT37 hp_2, rA_sT40 hp_2, TPRp_sT hp_2, WNp_sT hp_2, VMp_sT hp_2, KYp_sT hp_2, PPp_sT hp_2, WFp_sT hp_2, CCp_sT hp_2, rNMp_sT2, PNp_sT2, rk_n0 hp_2, Ks257]); omega) | omega | (have zz_ := fz_z (by assumption); omega) | (split <;> omega) | done)), ?_⟩
                  intro s264 Ws264 e264_0 e264_1 e264_2 e264_3 e264_4 e264_5 e264_6 e264_7 e264_8 e264_9 e264_10 e264_11 e264_12 e264_13 e264_14 e264_15 e264_16 e264_17 e264_18 e264_19 e264_20 e264_21 e264_22 e264_23 e264_24 e264_25 R264 q264
                  have q264 := dig_need q264 (by (try simp only [reduceIte, and_true, true_and, and_false, false_and, and_self, Nat.reduceEqDiff, fz_sA, rF_sA, rA_sA, rR_sA, rF_sT, rR_sT, sT_sF, fz_sT, rA_sT26 hp_2, rA_sT27 hp_2, rA_sT34 hp_2, rA_sT35 hp_2, rA_sT36 hp_2, rA_sT37 hp_2, rA_sT40 hp_2, TPRp_sT hp_2, WNp_sT hp_2, VMp_sT hp_2, KYp_sT hp_2, PPp_sT hp_2, WFp_sT hp_2, CCp_sT hp_2, rNMp_sT2, PNp_sT2, rk_n0 hp_2, Ks257]); omega)
                  obtain ⟨q264_1, q264_2, q264_3, q264_4⟩ := q264
                  (try simp only [reduceIte, and_true, true_and, and_false, false_and, and_self, Nat.reduceEqDiff, fz_sA, rF_sA, rA_sA, rR_sA, rF_sT, rR_sT, sT_sF, fz_sT, rA_sT26 hp_2, rA_sT27 hp_2, rA_sT34 hp_2, rA_sT35 hp_2, rA_sT36 hp_2, rA_sT37 hp_2, rA_sT40 hp_2, TPRp_sT hp_2, WNp_sT hp_2, VMp_sT hp_2, KYp_sT hp_2, PPp_sT hp_2, WFp_sT hp_2, CCp_sT hp_2, rNMp_sT2, PNp_sT2, rk_n0 hp_2, Ks257, NBP, NBQ] at q264_1 q264_2 q264_3 q264_4 e264_0 e264_1 e264_2 e264_3 e264_4 e264_5 e264_6 e264_7 e264_8 e264_9 e264_10 e264_11 e264_12 e264_13 e264_14 e264_15 e264_16 e264_17 e264_18 e264_19 e264_20 e264_21 e264_22 e264_23 e264_24 e264_25 R264)
                  have Ks264 : rR s264 7 = rR σ 7 := by first | assumption | ((try simp only [rR_sF, rR_sA, rR_sT, rR_sL] at e264_0 e264_1 e264_2 e264_3 e264_4 e264_5 e264_6 e264_7 e264_8 e264_9 e264_10 e264_11 e264_12 e264_13 e264_14 e264_15 e264_16 e264_17 e264_18 e264_19 e264_20 e264_21 e264_22 e264_23 e264_24 e264_25 R264); omega)
                  have zr264 := fz_rng s264
                  have zc264 : fz s264 = 0 → fz s257 = 0 := fun hf => by omega
                  have A264 : Im (fz s264 = 0) (RG σ s264 (rR σ 7) 0) := fun hf => RG.trk hp_2 (A260 (zc264 hf)) R264 (Or.inr (Or.inl rfl))
                  have O219u33 : Im (fz s264 = 0) _ := fun hf => OP.gk0 (O219u31 (zc264 hf)) (GK.up (g := gs260) (N := rF (sT s257 (rR σ 7) 2 v219 v257) (rR σ 7) 7) (N' := rF s264 (rR σ 7) 7) (c := 0) (by first | assumption | omega | (simp only [rF_sT, rF_sA]; omega)))
                  have L260u34 : Im (fz s264 = 0) _ := fun hf => LI.gk0 hp_2 (L260u32 (zc264 hf)) (O219u31 (zc264 hf)) R264 (GK.up (g := gs260) (N := rF (sT s257 (rR σ 7) 2 v219 v257) (rR σ 7) 7) (N' := rF s264 (rR σ 7) 7) (c := 0) (by first | assumption | omega | (simp only [rF_sT, rF_sA]; omega)))
                  have Ku35 : Im (fz s264 = 0) (GK g gs260 (rF σ (rR σ 7) 7) (rF s264 (rR σ 7) 7) 0) := fun hf => GK.trans (Ku29 (zc264 hf)) (GK.up (N := rF (sT s257 (rR σ 7) 2 v219 v257) (rR σ 7) 7) (N' := rF s264 (rR σ 7) 7) (c := 0) (by first | assumption | omega | (simp only [rF_sT, rF_sA]; omega))) (Or.inr (Or.inl rfl))
                  have Gu36 : Im (fz s264 = 0) (GS s264 (rR σ 7) gs260) := fun hf => GS.mv hp_2 (Gu30 (zc264 hf)) R264 (by first | assumption | omega | (simp only [rF_sT, rF_sA]; omega)) (by first | (exact Int.le_of_eq (Eq.symm (by assumption))) | omega | (simp only [rF_sT, rF_sA]; omega))
                  have rNMp_264 := e264_0 q257_2; clear e264_0
                  have TPRp_264 := e264_1 TPRp_257; clear e264_1
                  have WNp_264 := e264_2 q257_3; clear e264_2
                  have PNp_264 := e264_3 q257_4; clear e264_3
                  have CCp_264 := e264_4 CCp_257; clear e264_4
                  obtain ⟨gu37, Xu38⟩ := EC_38 (P := fz s264 = 0) (rF s264 0 29) Gu36 O219u33 (fun hf => by omega)
                  have O219u39 : Im (fz s264 = 0) _ := fun hf => (Xu38 hf).2.1
                  have Ku40 : Im (fz s264 = 0) (GK g gu37 (rF σ (rR σ 7) 7) (rF s264 (rR σ 7) 7) 0) := fun hf => GK.kc (Ku35 hf) (Xu38 hf).2.2 (by omega)
                  have Gu41 : Im (fz s264 = 0) _ := fun hf => (Xu38 hf).1
                  exact (by (try simp only [post_X14_readPrimary, Ks264]); (all_goals (repeat' (first | with_reducible intro _ | with_reducible apply And.intro | with_reducible refine Exists.intro gu37 ?_ | with_reducible refine Im.and ?_ ?_))); all_goals (first | assumption | trivial | ((with_reducible refine Im.i fun hf_ => ?_); first | exact (A264 hf_) | exact (Gu41 hf_) | exact (Ku40 hf_) | exact (O219u39 hf_).cst | exact ok1.i | (exact LI.z (fun h => absurd h (by decide))) | (exact absurd hf_ (by omega)) | omega) | (unfold NBP; (try simp only [Ks264]); omega) | (unfold NBQ; (try simp only [Ks264]); omega) | omega | (have zz_ := fz_z (by assumption); omega) | (split <;> omega) | done))
              · refine ⟨(by (try simp only [pre_X14_isWord_t]); (all_goals (repeat' (first | with_reducible intro _ | with_reducible apply And.intro | with_reducible refine Exists.intro g ?_ | with_reducible refine Im.and ?_ ?_))); all_goals (first | assumption | trivial | ((with_reducible refine Im.i fun hf_ => ?_); first | exact ((fun _ => RG.rf) hf_) | exact (hp_8 hf_) | exact ((fun _ => GK.rf) hf_) | exact ok1.i | (exact LI.z (fun h => absurd h (by decide))) | (exact absurd hf_ (by omega)) | omega) | (unfold NBP; omega) | (unfold NBQ; omega) | omega | (have zz_ := fz_z (by assumption); omega) | (split <;> omega) | done)), ?_⟩
                intro v162 hv162 q162
                unfold rng at hv162
                unfold post_X14_isWord_t at q162
                obtain ⟨q162_1, q162_2, q162_3⟩ := q162
                (try simp only [NBP, NBQ] at q162_1 q162_2 q162_3)
                refine ⟨fun c165 => ?_, fun c165 => ?_⟩
                · refine ⟨(by (try simp only [pre_X14_node_t]); (all_goals (repeat' (first | with_reducible intro _ | with_reducible apply And.intro | with_reducible refine Exists.intro g ?_ | with_reducible refine Im.and ?_ ?_))); all_goals (first | assumption | trivial | ((with_reducible refine Im.i fun hf_ => ?_); first | exact ((fun _ => RG.rf) hf_) | exact (hp_8 hf_) | exact ((fun _ => GK.rf) hf_) | exact ok1.i | (exact LI.z (fun h => absurd h (by decide))) | (exact absurd hf_ (by omega)) | omega) | (unfold NBP; omega) | (unfold NBQ; omega) | omega | (have zz_ := fz_z (by assumption); omega) | (split <;> omega) | done)), ?_⟩
                  intro v178 s178 hv178 Ws178 e178_0 e178_1 e178_2 e178_3 e178_4 e178_5 e178_6 e178_7 e178_8 e178_9 e178_10 e178_11 e178_12 e178_13 e178_14 e178_15 e178_16 e178_17 e178_18 e178_19 e178_20 e178_21 e178_22 e178_23 e178_24 e178_25 e178_26 q178
                  unfold rng at hv178
                  unfold post_X14_node_t at q178
                  obtain ⟨q178_1, q178_2, q178_3, q178_4, q178_5, q178_6, q178_7, q178_8, q178_9, q178_10⟩ := q178
                  (try simp only [NBP, NBQ] at q178_1 q178_2 q178_3 q178_4 q178_5 q178_6 q178_7 q178_8 q178_9 q178_10 e178_0 e178_1 e178_2 e178_3 e178_4 e178_5 e178_6 e178_7 e178_8 e178_9 e178_10 e178_11 e178_12 e178_13 e178_14 e178_15 e178_16 e178_17 e178_18 e178_19 e178_20 e178_21 e178_22 e178_23 e178_24 e178_25 e178_26)
                  have Ks178 : rR s178 7 = rR σ 7 := by first | assumption | ((try simp only [rR_sF, rR_sA, rR_sT, rR_sL] at e178_0 e178_1 e178_2 e178_3 e178_4 e178_5 e178_6 e178_7 e178_8 e178_9 e178_10 e178_11 e178_12 e178_13 e178_14 e178_15 e178_16 e178_17 e178_18 e178_19 e178_20 e178_21 e178_22 e178_23 e178_24 e178_25 e178_26); omega)
                  have zr178 := fz_rng s178
                  have zc178 : fz s178 = 0 → fz σ = 0 := fun hf => by omega
                  have A178 : Im (fz s178 = 0) (RG σ s178 (rR σ 7) 0) := fun hf => RG.trk hp_2 ((fun _ => RG.rf) (zc178 hf)) q178_3 (Or.inr (Or.inl rfl))
                  obtain ⟨g178, X178⟩ := EN_32 (P := fz s178 = 0) (rF σ 0 29) (rF σ 0 31) hp_2 (fun hf => hp_8 (zc178 hf)) (fun hf => q178_3) q178_1 q178_2 q178_4 q178_5 q178_6 q178_9 (fun hf => by (try simp only [rF_sT, rF_sA]); (repeat' (with_reducible apply And.intro)) <;> first | trivial | omega)
                  have Ku42 : Im (fz s178 = 0) (GK g g178 (rF σ (rR σ 7) 7) (rF s178 (rR σ 7) 7) 0) := fun hf => GK.gs ((fun _ => GK.rf) (zc178 hf)) (X178 hf).2.1
                  have Gu43 : Im (fz s178 = 0) _ := fun hf => (X178 hf).1
                  have O178 : Im (fz s178 = 0) _ := fun hf => (X178 hf).2.2.1
                  have rNMp_178 := e178_0 hp_5; clear e178_0
                  have TPRp_178 := e178_1 hC1; clear e178_1
                  have WNp_178 := e178_2 hp_6; clear e178_2
                  have CCp_178 := e178_3 hp_3; clear e178_3
                  intro hr_; unfold rng at hr_
                  intro hr_; unfold rng at hr_
                  refine ⟨(by (try simp only [pre_X14_wordEnd_t, Ks178]); (all_goals (repeat' (first | with_reducible intro _ | with_reducible apply And.intro | with_reducible refine Exists.intro g178 ?_ | with_reducible refine Im.and ?_ ?_))); all_goals (first | assumption | trivial | ((with_reducible refine Im.i fun hf_ => ?_); first | exact (A178 hf_) | exact (Gu43 hf_) | exact (Ku42 hf_) | exact (O178 hf_).cst | exact ok1.i | (exact LI.z (fun h => absurd h (by decide))) | (exact absurd hf_ (by omega)) | omega) | (unfold NBP; (try simp only [Ks178]); omega) | (unfold NBQ; (try simp only [Ks178]); omega) | omega | (have zz_ := fz_z (by assumption); omega) | (split <;> omega) | done)), ?_⟩
                  intro v195 hv195 q195
                  unfold rng at hv195
                  unfold post_X14_wordEnd_t at q195
                  obtain ⟨q195_1, q195_2, q195_3, q195_4⟩ := q195
                  (try simp only [Ks178, NBP, NBQ] at q195_1 q195_2 q195_3 q195_4)
                  have w_ : rF σ 0 29 < v195 := by
                    have et : rA s178 1026 (rF σ 0 29) = rA σ 1026 (rF σ 0 29) := (show ∀ i, rA s178 1026 i = rA σ 1026 i by assumption) _
                    have hl := (by first | exact q141_3 ⟨by omega, by decide⟩ | exact q151_3 ⟨by omega, by decide⟩)
                    exact q195_4 ⟨by omega, by rw [et]; exact hl.2⟩
                  obtain ⟨gu44, Xu45⟩ := EC_32 (P := fz s178 = 0) v195 Gu43 O178 (fun hf => by omega)
                  have O178u46 : Im (fz s178 = 0) _ := fun hf => (Xu45 hf).2.1
                  have Ku47 : Im (fz s178 = 0) (GK g gu44 (rF σ (rR σ 7) 7) (rF s178 (rR σ 7) 7) 0) := fun hf => GK.kc (Ku42 hf) (Xu45 hf).2.2 (by omega)
                  have Gu48 : Im (fz s178 = 0) _ := fun hf => (Xu45 hf).1
                  exact (by (try simp only [post_X14_readPrimary, reduceIte, and_true, true_and, and_false, false_and, and_self, Nat.reduceEqDiff, fz_sF29, rF_sF, rA_sF, rR_sF, tr_sF, rNMp_sF, PNp_sF, GS_F29, OP_F29, NR_F29, LI_F29, RG_l29, RG_r29, TPRp_sF29, WNp_sF29, VMp_sF29, KYp_sF29, PPp_sF29, WFp_sF29, CCp_sF29, rk_n0 hp_2, Ks178]); (all_goals (repeat' (first | with_reducible intro _ | with_reducible apply And.intro | with_reducible refine Exists.intro gu44 ?_ | with_reducible refine Im.and ?_ ?_))); all_goals (first | assumption | trivial | ((with_reducible refine Im.i fun hf_ => ?_); first | exact (A178 hf_) | exact (Gu48 hf_) | exact (Ku47 hf_) | exact (O178u46 hf_).cst | exact ok1.i | (exact LI.z (fun h => absurd h (by decide))) | (exact absurd hf_ (by omega)) | omega) | (unfold NBP; (try simp only [reduceIte, and_true, true_and, and_false, false_and, and_self, Nat.reduceEqDiff, fz_sF29, rF_sF, rA_sF, rR_sF, tr_sF, rNMp_sF, PNp_sF, GS_F29, OP_F29, NR_F29, LI_F29, RG_l29, RG_r29, TPRp_sF29, WNp_sF29, VMp_sF29, KYp_sF29, PPp_sF29, WFp_sF29, CCp_sF29, rk_n0 hp_2, Ks178]); omega) | (unfold NBQ; (try simp only [reduceIte, and_true, true_and, and_false, false_and, and_self, Nat.reduceEqDiff, fz_sF29, rF_sF, rA_sF, rR_sF, tr_sF, rNMp_sF, PNp_sF, GS_F29, OP_F29, NR_F29, LI_F29, RG_l29, RG_r29, TPRp_sF29, WNp_sF29, VMp_sF29, KYp_sF29, PPp_sF29, WFp_sF29, CCp_sF29, rk_n0 hp_2, Ks178]); omega) | omega | (have zz_ := fz_z (by assumption); omega) | (split <;> omega) | done))
                · refine ⟨(by (try simp only [pre_X14_node_t]); (all_goals (repeat' (first | with_reducible intro _ | with_reducible apply And.intro | with_reducible refine Exists.intro g ?_ | with_reducible refine Im.and ?_ ?_))); all_goals (first | assumption | trivial | ((with_reducible refine Im.i fun hf_ => ?_); first | exact ((fun _ => RG.rf) hf_) | exact (hp_8 hf_) | exact ((fun _ => GK.rf) hf_) | exact ok1.i | (exact LI.z (fun h => absurd h (by decide))) | (exact absurd hf_ (by omega)) | omega) | (unfold NBP; omega) | (unfold NBQ; omega) | omega | (have zz_ := fz_z (by assumption); omega) | (split <;> omega) | done)), ?_⟩
                  intro v178 s178 hv178 Ws178 e178_0 e178_1 e178_2 e178_3 e178_4 e178_5 e178_6 e178_7 e178_8 e178_9 e178_10 e178_11 e178_12 e178_13 e178_14 e178_15 e178_16 e178_17 e178_18 e178_19 e178_20 e178_21 e178_22 e178_23 e178_24 e178_25 e178_26 q178
                  unfold rng at hv178
                  unfold post_X14_node_t at q178
                  obtain ⟨q178_1, q178_2, q178_3, q178_4, q178_5, q178_6, q178_7, q178_8, q178_9, q178_10⟩ := q178
                  (try simp only [NBP, NBQ] at q178_1 q178_2 q178_3 q178_4 q178_5 q178_6 q178_7 q178_8 q178_9 q178_10 e178_0 e178_1 e178_2 e178_3 e178_4 e178_5 e178_6 e178_7 e178_8 e178_9 e178_10 e178_11 e178_12 e178_13 e178_14 e178_15 e178_16 e178_17 e178_18 e178_19 e178_20 e178_21 e178_22 e178_23 e178_24 e178_25 e178_26)
                  have Ks178 : rR s178 7 = rR σ 7 := by first | assumption | ((try simp only [rR_sF, rR_sA, rR_sT, rR_sL] at e178_0 e178_1 e178_2 e178_3 e178_4 e178_5 e178_6 e178_7 e178_8 e178_9 e178_10 e178_11 e178_12 e178_13 e178_14 e178_15 e178_16 e178_17 e178_18 e178_19 e178_20 e178_21 e178_22 e178_23 e178_24 e178_25 e178_26); omega)
                  have zr178 := fz_rng s178
                  have zc178 : fz s178 = 0 → fz σ = 0 := fun hf => by omega
                  have A178 : Im (fz s178 = 0) (RG σ s178 (rR σ 7) 0) := fun hf => RG.trk hp_2 ((fun _ => RG.rf) (zc178 hf)) q178_3 (Or.inr (Or.inl rfl))
                  obtain ⟨g178, X178⟩ := EN_31 (P := fz s178 = 0) (rF σ 0 29) (rF σ 0 31) hp_2 (fun hf => hp_8 (zc178 hf)) (fun hf => q178_3) q178_1 q178_2 q178_4 q178_5 q178_6 q178_9 (fun hf => by (try simp only [rF_sT, rF_sA]); (repeat' (with_reducible apply And.intro)) <;> first | trivial | omega)
                  have Ku49 : Im (fz s178 = 0) (GK g g178 (rF σ (rR σ 7) 7) (rF s178 (rR σ 7) 7) 0) := fun hf => GK.gs ((fun _ => GK.rf) (zc178 hf)) (X178 hf).2.1
                  have Gu50 : Im (fz s178 = 0) _ := fun hf => (X178 hf).1
                  have O178 : Im (fz s178 = 0) _ := fun hf => (X178 hf).2.2.1
                  have rNMp_178 := e178_0 hp_5; clear e178_0
                  have TPRp_178 := e178_1 hC1; clear e178_1
                  have WNp_178 := e178_2 hp_6; clear e178_2
                  have CCp_178 := e178_3 hp_3; clear e178_3
                  intro hr_; unfold rng at hr_
                  intro hr_; unfold rng at hr_
                  refine ⟨(by (try simp only [pre_X14_wordEnd_t, Ks178]); (all_goals (repeat' (first | with_reducible intro _ | with_reducible apply And.intro | with_reducible refine Exists.intro g178 ?_ | with_reducible refine Im.and ?_ ?_))); all_goals (first | assumption | trivial | ((with_reducible refine Im.i fun hf_ => ?_); first | exact (A178 hf_) | exact (Gu50 hf_) | exact (Ku49 hf_) | exact (O178 hf_).cst | exact ok1.i | (exact LI.z (fun h => absurd h (by decide))) | (exact absurd hf_ (by omega)) | omega) | (unfold NBP; (try simp only [Ks178]); omega) | (unfold NBQ; (try simp only [Ks178]); omega) | omega | (have zz_ := fz_z (by assumption); omega) | (split <;> omega) | done)), ?_⟩
                  intro v195 hv195 q195
                  unfold rng at hv195
                  unfold post_X14_wordEnd_t at q195
                  obtain ⟨q195_1, q195_2, q195_3, q195_4⟩ := q195
                  (try simp only [Ks178, NBP, NBQ] at q195_1 q195_2 q195_3 q195_4)
                  have w_ : rF σ 0 29 < v195 := by
                    have et : rA s178 1026 (rF σ 0 29) = rA σ 1026 (rF σ 0 29) := (show ∀ i, rA s178 1026 i = rA σ 1026 i by assumption) _
                    have hl := (by first | exact q141_3 ⟨by omega, by decide⟩ | exact q151_3 ⟨by omega, by decide⟩)
                    exact q195_4 ⟨by omega, by rw [et]; exact hl.2⟩
                  obtain ⟨gu51, Xu52⟩ := EC_31 (P := fz s178 = 0) v195 Gu50 O178 (fun hf => by omega)
                  have O178u53 : Im (fz s178 = 0) _ := fun hf => (Xu52 hf).2.1
                  have Ku54 : Im (fz s178 = 0) (GK g gu51 (rF σ (rR σ 7) 7) (rF s178 (rR σ 7) 7) 0) := fun hf => GK.kc (Ku49 hf) (Xu52 hf).2.2 (by omega)
                  have Gu55 : Im (fz s178 = 0) _ := fun hf => (Xu52 hf).1
                  exact (by (try simp only [post_X14_readPrimary, reduceIte, and_true, true_and, and_false, false_and, and_self, Nat.reduceEqDiff, fz_sF29, rF_sF, rA_sF, rR_sF, tr_sF, rNMp_sF, PNp_sF, GS_F29, OP_F29, NR_F29, LI_F29, RG_l29, RG_r29, TPRp_sF29, WNp_sF29, VMp_sF29, KYp_sF29, PPp_sF29, WFp_sF29, CCp_sF29, rk_n0 hp_2, Ks178]); (all_goals (repeat' (first | with_reducible intro _ | with_reducible apply And.intro | with_reducible refine Exists.intro gu51 ?_ | with_reducible refine Im.and ?_ ?_))); all_goals (first | assumption | trivial | ((with_reducible refine Im.i fun hf_ => ?_); first | exact (A178 hf_) | exact (Gu55 hf_) | exact (Ku54 hf_) | exact (O178u53 hf_).cst | exact ok1.i | (exact LI.z (fun h => absurd h (by decide))) | (exact absurd hf_ (by omega)) | omega) | (unfold NBP; (try simp only [reduceIte, and_true, true_and, and_false, false_and, and_self, Nat.reduceEqDiff, fz_sF29, rF_sF, rA_sF, rR_sF, tr_sF, rNMp_sF, PNp_sF, GS_F29, OP_F29, NR_F29, LI_F29, RG_l29, RG_r29, TPRp_sF29, WNp_sF29, VMp_sF29, KYp_sF29, PPp_sF29, WFp_sF29, CCp_sF29, rk_n0 hp_2, Ks178]); omega) | (unfold NBQ; (try simp only [reduceIte, and_true, true_and, and_false, false_and, and_self, Nat.reduceEqDiff, fz_sF29, rF_sF, rA_sF, rR_sF, tr_sF, rNMp_sF, PNp_sF, GS_F29, OP_F29, NR_F29, LI_F29, RG_l29, RG_r29, TPRp_sF29, WNp_sF29, VMp_sF29, KYp_sF29, PPp_sF29, WFp_sF29, CCp_sF29, rk_n0 hp_2, Ks178]); omega) | omega | (have zz_ := fz_z (by assumption); omega) | (split <;> omega) | done))
          · intro hr_; unfold rng at hr_
            refine ⟨(by (try simp only [rng]); (all_goals (repeat' (first | with_reducible intro _ | with_reducible apply And.intro | with_reducible refine Exists.intro g ?_ | with_reducible refine Im.and ?_ ?_))); all_goals (first | assumption | trivial | ((with_reducible refine Im.i fun hf_ => ?_); first | exact ((fun _ => RG.rf) hf_) | exact (hp_8 hf_) | exact ((fun _ => GK.rf) hf_) | exact ok1.i | (exact LI.z (fun h => absurd h (by decide))) | (exact absurd hf_ (by omega)) | omega) | (unfold NBP; omega) | (unfold NBQ; omega) | omega | (have zz_ := fz_z (by assumption); omega) | (split <;> omega) | done)), ?_⟩
            refine ⟨g, ?_⟩
            refine ⟨(by (try simp only [pre_X14_readArg, reduceIte, and_true, true_and, and_false, false_and, and_self, Nat.reduceEqDiff, fz_sF29, rF_sF, rA_sF, rR_sF, tr_sF, rNMp_sF, PNp_sF, GS_F29, OP_F29, NR_F29, LI_F29, RG_l29, RG_r29, TPRp_sF29, WNp_sF29, VMp_sF29, KYp_sF29, PPp_sF29, WFp_sF29, CCp_sF29, rk_n0 hp_2]); (all_goals (repeat' (first | with_reducible intro _ | with_reducible apply And.intro | with_reducible refine Exists.intro g ?_ | with_reducible refine Im.and ?_ ?_))); all_goals (first | assumption | trivial | ((with_reducible refine Im.i fun hf_ => ?_); first | exact ((fun _ => RG.rf) hf_) | exact (hp_8 hf_) | exact ((fun _ => GK.rf) hf_) | exact ok1.i | (exact LI.z (fun h => absurd h (by decide))) | (exact absurd hf_ (by omega)) | omega) | (unfold NBP; (try simp only [reduceIte, and_true, true_and, and_false, false_and, and_self, Nat.reduceEqDiff, fz_sF29, rF_sF, rA_sF, rR_sF, tr_sF, rNMp_sF, PNp_sF, GS_F29, OP_F29, NR_F29, LI_F29, RG_l29, RG_r29, TPRp_sF29, WNp_sF29, VMp_sF29, KYp_sF29, PPp_sF29, WFp_sF29, CCp_sF29, rk_n0 hp_2]); omega) | (unfold NBQ; (try simp only [reduceIte, and_true, true_and, and_false, false_and, and_self, Nat.reduceEqDiff, fz_sF29, rF_sF, rA_sF, rR_sF, tr_sF, rNMp_sF, PNp_sF, GS_F29, OP_F29, NR_F29, LI_F29, RG_l29, RG_r29, TPRp_sF29, WNp_sF29, VMp_sF29, KYp_sF29, PPp_sF29, WFp_sF29, CCp_sF29, rk_n0 hp_2]); omega) | omega | (have zz_ := fz_z (by assumption); omega) | (split <;> omega) | done)), ?_⟩
            refine ⟨(by (try simp only [rk_X14_readArg, reduceIte, and_true, true_and, and_false, false_and, and_self, Nat.reduceEqDiff, fz_sF29, rF_sF, rA_sF, rR_sF, tr_sF, rNMp_sF, PNp_sF, GS_F29, OP_F29, NR_F29, LI_F29, RG_l29, RG_r29, TPRp_sF29, WNp_sF29, VMp_sF29, KYp_sF29, PPp_sF29, WFp_sF29, CCp_sF29, rk_n0 hp_2]); (all_goals (repeat' (first | with_reducible intro _ | with_reducible apply And.intro | with_reducible refine Exists.intro g ?_ | with_reducible refine Im.and ?_ ?_))); all_goals (first | assumption | trivial | ((with_reducible refine Im.i fun hf_ => ?_); first | exact ((fun _ => RG.rf) hf_) | exact (hp_8 hf_) | exact ((fun _ => GK.rf) hf_) | exact ok1.i | (exact LI.z (fun h => absurd h (by decide))) | (exact absurd hf_ (by omega)) | omega) | (unfold NBP; (try simp only [reduceIte, and_true, true_and, and_false, false_and, and_self, Nat.reduceEqDiff, fz_sF29, rF_sF, rA_sF, rR_sF, tr_sF, rNMp_sF, PNp_sF, GS_F29, OP_F29, NR_F29, LI_F29, RG_l29, RG_r29, TPRp_sF29, WNp_sF29, VMp_sF29, KYp_sF29, PPp_sF29, WFp_sF29, CCp_sF29, rk_n0 hp_2]); omega) | (unfold NBQ; (try simp only [reduceIte, and_true, true_and, and_false, false_and, and_self, Nat.reduceEqDiff, fz_sF29, rF_sF, rA_sF, rR_sF, tr_sF, rNMp_sF, PNp_sF, GS_F29, OP_F29, NR_F29, LI_F29, RG_l29, RG_r29, TPRp_sF29, WNp_sF29, VMp_sF29, KYp_sF29, PPp_sF29, WFp_sF29, CCp_sF29, rk_n0 hp_2]); omega) | omega | (have zz_ := fz_z (by assumption); omega) | (split <;> omega) | done)), ?_⟩
            intro v67 s67 hv67 Ws67 e67_0 e67_1 e67_2 e67_3 e67_4 e67_5 e67_6 e67_7 e67_8 e67_9 q67
            unfold rng at hv67
            unfold post_X14_readArg at q67
            obtain ⟨q67_1, q67_2, q67_3, q67_4, q67_5, q67_6, q67_7, q67_8, q67_9⟩ := q67
            (try simp only [reduceIte, and_true, true_and, and_false, false_and, and_self, Nat.reduceEqDiff, fz_sF29, rF_sF, rA_sF, rR_sF, tr_sF, rNMp_sF, PNp_sF, GS_F29, OP_F29, NR_F29, LI_F29, RG_l29, RG_r29, TPRp_sF29, WNp_sF29, VMp_sF29, KYp_sF29, PPp_sF29, WFp_sF29, CCp_sF29, rk_n0 hp_2, NBP, NBQ] at q67_1 q67_2 q67_3 q67_4 q67_5 q67_6 q67_7 q67_8 q67_9 e67_0 e67_1 e67_2 e67_3 e67_4 e67_5 e67_6 e67_7 e67_8 e67_9)
            have Ks67 : rR s67 7 = rR σ 7 := by first | assumption | ((try simp only [rR_sF, rR_sA, rR_sT, rR_sL] at e67_0 e67_1 e67_2 e67_3 e67_4 e67_5 e67_6 e67_7 e67_8 e67_9); omega)
            have zr67 := fz_rng s67
            have zc67 : fz s67 = 0 → fz σ = 0 := fun hf => by omega
            have A67 : Im (fz s67 = 0) (RG σ s67 (rR σ 7) 0) := fun hf => RG.trk hp_2 ((fun _ => RG.rf) (zc67 hf)) (q67_8 (by omega)) (Or.inr (Or.inl rfl))
            obtain ⟨g67, X67⟩ := q67_9
            have Ku56 : Im (fz s67 = 0) (GK g g67 (rF σ (rR σ 7) 7) (rF s67 (rR σ 7) 7) 0) := fun hf => GK.trans ((fun _ => GK.rf) (zc67 hf)) ((X67 hf).2.1) (Or.inr (Or.inl rfl))
            have Gu57 : Im (fz s67 = 0) (GS s67 (rR σ 7) g67) := fun hf => (X67 hf).1
            have r67 : Im (fz s67 = 0) _ := fun hf => (X67 hf).2.2.1
            have TPRp_67 := e67_0 hC1; clear e67_0
            have CCp_67 := e67_1 hp_3; clear e67_1
            refine ⟨(by (try simp only [pre_X14_need, Ks67]); (all_goals (repeat' (first | with_reducible intro _ | with_reducible apply And.intro | with_reducible refine Exists.intro g67 ?_ | with_reducible refine Im.and ?_ ?_))); all_goals (first | assumption | trivial | ((with_reducible refine Im.i fun hf_ => ?_); first | exact (A67 hf_) | exact (Gu57 hf_) | exact (Ku56 hf_) | exact (r67 hf_).cst | exact ok1.i | (exact LI.z (fun h => absurd h (by decide))) | (exact absurd hf_ (by omega)) | omega) | (unfold NBP; (try simp only [Ks67]); omega) | (unfold NBQ; (try simp only [Ks67]); omega) | omega | (have zz_ := fz_z (by assumption); omega) | (split <;> omega) | done)), ?_⟩
            intro s74 Ws74 e74_0 e74_1 e74_2 e74_3 e74_4 e74_5 e74_6 e74_7 e74_8 e74_9 e74_10 e74_11 e74_12 e74_13 e74_14 e74_15 e74_16 e74_17 e74_18 e74_19 e74_20 e74_21 e74_22 e74_23 e74_24 e74_25 R74 q74
            have q74 := dig_need q74 (by (try simp only [Ks67]); omega)
            obtain ⟨q74_1, q74_2, q74_3, q74_4⟩ := q74
            (try simp only [Ks67, NBP, NBQ] at q74_1 q74_2 q74_3 q74_4 e74_0 e74_1 e74_2 e74_3 e74_4 e74_5 e74_6 e74_7 e74_8 e74_9 e74_10 e74_11 e74_12 e74_13 e74_14 e74_15 e74_16 e74_17 e74_18 e74_19 e74_20 e74_21 e74_22 e74_23 e74_24 e74_25 R74)
            have Ks74 : rR s74 7 = rR σ 7 := by first | assumption | ((try simp only [rR_sF, rR_sA, rR_sT, rR_sL] at e74_0 e74_1 e74_2 e74_3 e74_4 e74_5 e74_6 e74_7 e74_8 e74_9 e74_10 e74_11 e74_12 e74_13 e74_14 e74_15 e74_16 e74_17 e74_18 e74_19 e74_20 e74_21 e74_22 e74_23 e74_24 e74_25 R74); omega)
            have zr74 := fz_rng s74
            have zc74 : fz s74 = 0 → fz s67 = 0 := fun hf => by omega
            have A74 : Im (fz s74 = 0) (RG σ s74 (rR σ 7) 0) := fun hf => RG.trk hp_2 (A67 (zc74 hf)) R74 (Or.inr (Or.inl rfl))
            have r67u58 : Im (fz s74 = 0) _ := fun hf => NR.gk (r67 (zc74 hf)) (GK.up (g := g67) (N := rF s67 (rR σ 7) 7) (N' := rF s74 (rR σ 7) 7) (c := 0) (by first | assumption | omega | (simp only [rF_sT, rF_sA]; omega)))
            have Ku59 : Im (fz s74 = 0) (GK g g67 (rF σ (rR σ 7) 7) (rF s74 (rR σ 7) 7) 0) := fun hf => GK.trans (Ku56 (zc74 hf)) (GK.up (N := rF s67 (rR σ 7) 7) (N' := rF s74 (rR σ 7) 7) (c := 0) (by first | assumption | omega | (simp only [rF_sT, rF_sA]; omega))) (Or.inr (Or.inl rfl))
            have Gu60 : Im (fz s74 = 0) (GS s74 (rR σ 7) g67) := fun hf => GS.mv hp_2 (Gu57 (zc74 hf)) R74 (by first | assumption | omega | (simp only [rF_sT, rF_sA]; omega)) (by first | (exact Int.le_of_eq (Eq.symm (by assumption))) | omega | (simp only [rF_sT, rF_sA]; omega))
            have rNMp_74 := e74_0 q67_2; clear e74_0
            have TPRp_74 := e74_1 TPRp_67; clear e74_1
            have WNp_74 := e74_2 q67_3; clear e74_2
            have PNp_74 := e74_3 q67_4; clear e74_3
            have CCp_74 := e74_4 CCp_67; clear e74_4
            refine ⟨(by (try simp only [pre_X14_blanks, Ks74]); (all_goals (repeat' (first | with_reducible intro _ | with_reducible apply And.intro | with_reducible refine Exists.intro g67 ?_ | with_reducible refine Im.and ?_ ?_))); all_goals (first | assumption | trivial | ((with_reducible refine Im.i fun hf_ => ?_); first | exact (A74 hf_) | exact (Gu60 hf_) | exact (Ku59 hf_) | exact (r67u58 hf_).cst | exact ok1.i | (exact LI.z (fun h => absurd h (by decide))) | (exact absurd hf_ (by omega)) | omega) | (unfold NBP; (try simp only [Ks74]); omega) | (unfold NBQ; (try simp only [Ks74]); omega) | omega | (have zz_ := fz_z (by assumption); omega) | (split <;> omega) | done)), ?_⟩
            intro s78 Ws78 e78_0 e78_1 e78_2 e78_3 e78_4 e78_5 e78_6 e78_7 e78_8 e78_9 e78_10 e78_11 e78_12 e78_13 e78_14 e78_15 e78_16 e78_17 e78_18 e78_19 e78_20 e78_21 e78_22 e78_23 e78_24 e78_25 e78_26 e78_27 R78 q78
            have q78 := dig_blanks q78 (by (try simp only [Ks74]); omega)
            obtain ⟨q78_1, q78_2⟩ := q78
            (try simp only [Ks74, NBP, NBQ] at q78_1 q78_2 e78_0 e78_1 e78_2 e78_3 e78_4 e78_5 e78_6 e78_7 e78_8 e78_9 e78_10 e78_11 e78_12 e78_13 e78_14 e78_15 e78_16 e78_17 e78_18 e78_19 e78_20 e78_21 e78_22 e78_23 e78_24 e78_25 e78_26 e78_27 R78)
            have Ks78 : rR s78 7 = rR σ 7 := by first | assumption | ((try simp only [rR_sF, rR_sA, rR_sT, rR_sL] at e78_0 e78_1 e78_2 e78_3 e78_4 e78_5 e78_6 e78_7 e78_8 e78_9 e78_10 e78_11 e78_12 e78_13 e78_14 e78_15 e78_16 e78_17 e78_18 e78_19 e78_20 e78_21 e78_22 e78_23 e78_24 e78_25 e78_26 e78_27 R78); omega)
            have zr78 := fz_rng s78
            have zc78 : fz s78 = 0 → fz s74 = 0 := fun hf => by omega
            have A78 : Im (fz s78 = 0) (RG σ s78 (rR σ 7) 0) := fun hf => RG.trk hp_2 (A74 (zc78 hf)) R78 (Or.inr (Or.inl rfl))
            have r67u61 : Im (fz s78 = 0) _ := fun hf => NR.gk (r67u58 (zc78 hf)) (GK.up (g := g67) (N := rF s74 (rR σ 7) 7) (N' := rF s78 (rR σ 7) 7) (c := 0) (by first | assumption | omega | (simp only [rF_sT, rF_sA]; omega)))
            have Ku62 : Im (fz s78 = 0) (GK g g67 (rF σ (rR σ 7) 7) (rF s78 (rR σ 7) 7) 0) := fun hf => GK.trans (Ku59 (zc78 hf)) (GK.up (N := rF s74 (rR σ 7) 7) (N' := rF s78 (rR σ 7) 7) (c := 0) (by first | assumption | omega | (simp only [rF_sT, rF_sA]; omega))) (Or.inr (Or.inl rfl))
            have Gu63 : Im (fz s78 = 0) (GS s78 (rR σ 7) g67) := fun hf => GS.mv hp_2 (Gu60 (zc78 hf)) R78 (by first | assumption | omega | (simp only [rF_sT, rF_sA]; omega)) (by first | (exact Int.le_of_eq (Eq.symm (by assumption))) | omega | (simp only [rF_sT, rF_sA]; omega))
            have rNMp_78 := e78_0 rNMp_74; clear e78_0
            have TPRp_78 := e78_1 TPRp_74; clear e78_1
            have WNp_78 := e78_2 WNp_74; clear e78_2
            have PNp_78 := e78_3 PNp_74; clear e78_3
            have CCp_78 := e78_4 CCp_74; clear e78_4
            refine ⟨(by (try simp only [pre_X14_here, Ks78]); (all_goals (repeat' (first | with_reducible intro _ | with_reducible apply And.intro | with_reducible refine Exists.intro g67 ?_ | with_reducible refine Im.and ?_ ?_))); all_goals (first | assumption | trivial | ((with_reducible refine Im.i fun hf_ => ?_); first | exact (A78 hf_) | exact (Gu63 hf_) | exact (Ku62 hf_) | exact (r67u61 hf_).cst | exact ok1.i | (exact LI.z (fun h => absurd h (by decide))) | (exact absurd hf_ (by omega)) | omega) | (unfold NBP; (try simp only [Ks78]); omega) | (unfold NBQ; (try simp only [Ks78]); omega) | omega | (have zz_ := fz_z (by assumption); omega) | (split <;> omega) | done)), ?_⟩
            intro v82 hv82 q82
            unfold rng at hv82
            unfold post_X14_here at q82
            obtain ⟨q82_1, q82_2⟩ := q82
            (try simp only [Ks78, NBP, NBQ] at q82_1 q82_2)
            refine ⟨fun c87 => ?_, fun c87 => ?_⟩
            · refine ⟨(by (try simp only [pre_X14_node_t, Ks78]); (all_goals (repeat' (first | with_reducible intro _ | with_reducible apply And.intro | with_reducible refine Exists.intro g67 ?_ | with_reducible refine Im.and ?_ ?_))); all_goals (first | assumption | trivial | ((with_reducible refine Im.i fun hf_ => ?_); first | exact (A78 hf_) | exact (Gu63 hf_) | exact (Ku62 hf_) | exact (r67u61 hf_).cst | exact ok1.i | (exact LI.z (fun h => absurd h (by decide))) | (exact absurd hf_ (by omega)) | omega) | (unfold NBP; (try simp only [Ks78]); omega) | (unfold NBQ; (try simp only [Ks78]); omega) | omega | (have zz_ := fz_z (by assumption); omega) | (split <;> omega) | done)), ?_⟩
              intro v103 s103 hv103 Ws103 e103_0 e103_1 e103_2 e103_3 e103_4 e103_5 e103_6 e103_7 e103_8 e103_9 e103_10 e103_11 e103_12 e103_13 e103_14 e103_15 e103_16 e103_17 e103_18 e103_19 e103_20 e103_21 e103_22 e103_23 e103_24 e103_25 e103_26 q103
              unfold rng at hv103
              unfold post_X14_node_t at q103
              obtain ⟨q103_1, q103_2, q103_3, q103_4, q103_5, q103_6, q103_7, q103_8, q103_9, q103_10⟩ := q103
              (try simp only [Ks78, NBP, NBQ] at q103_1 q103_2 q103_3 q103_4 q103_5 q103_6 q103_7 q103_8 q103_9 q103_10 e103_0 e103_1 e103_2 e103_3 e103_4 e103_5 e103_6 e103_7 e103_8 e103_9 e103_10 e103_11 e103_12 e103_13 e103_14 e103_15 e103_16 e103_17 e103_18 e103_19 e103_20 e103_21 e103_22 e103_23 e103_24 e103_25 e103_26)
              have Ks103 : rR s103 7 = rR σ 7 := by first | assumption | ((try simp only [rR_sF, rR_sA, rR_sT, rR_sL] at e103_0 e103_1 e103_2 e103_3 e103_4 e103_5 e103_6 e103_7 e103_8 e103_9 e103_10 e103_11 e103_12 e103_13 e103_14 e103_15 e103_16 e103_17 e103_18 e103_19 e103_20 e103_21 e103_22 e103_23 e103_24 e103_25 e103_26); omega)
              have zr103 := fz_rng s103
              have zc103 : fz s103 = 0 → fz s78 = 0 := fun hf => by omega
              have A103 : Im (fz s103 = 0) (RG σ s103 (rR σ 7) 0) := fun hf => RG.trk hp_2 (A78 (zc103 hf)) q103_3 (Or.inr (Or.inl rfl))
              obtain ⟨g103, X103⟩ := EV_39 (P := fz s103 = 0) ((rF σ 0 29) + 1) (rF s67 0 31) hp_2 (fun hf => Gu63 (zc103 hf)) (fun hf => r67u61 (zc103 hf)) (fun _ h => h) (fun hf => q103_3) q103_1 q103_2 q103_4 q103_5 q103_6 q103_9 (fun hf => by (try simp only [rF_sT, rF_sA]); (repeat' (with_reducible apply And.intro)) <;> first | trivial | omega)
              have Ku64 : Im (fz s103 = 0) (GK g g103 (rF σ (rR σ 7) 7) (rF s103 (rR σ 7) 7) 0) := fun hf => GK.kv (Ku62 (zc103 hf)) (X103 hf).2.1 (by omega)
              have Gu65 : Im (fz s103 = 0) _ := fun hf => (X103 hf).1
              have O103 : Im (fz s103 = 0) _ := fun hf => (X103 hf).2.2.1
              have L103_1 : Im (fz s103 = 0) _ := fun hf => (X103 hf).2.2.2.1
              have rNMp_103 := e103_0 rNMp_78; clear e103_0
              have TPRp_103 := e103_1 TPRp_78; clear e103_1
              have WNp_103 := e103_2 WNp_78; clear e103_2
              have CCp_103 := e103_3 CCp_78; clear e103_3
              obtain ⟨gu66, Xu67⟩ := EC_39 (P := fz s103 = 0) (rF s78 0 29) Gu65 O103 (fun hf => by omega)
              have O103u68 : Im (fz s103 = 0) _ := fun hf => (Xu67 hf).2.1
              have Ku69 : Im (fz s103 = 0) (GK g gu66 (rF σ (rR σ 7) 7) (rF s103 (rR σ 7) 7) 0) := fun hf => GK.kc (Ku64 hf) (Xu67 hf).2.2 (by omega)
              have Gu70 : Im (fz s103 = 0) _ := fun hf => (Xu67 hf).1
              exact (by (try simp only [post_X14_readPrimary, Ks103]); (all_goals (repeat' (first | with_reducible intro _ | with_reducible apply And.intro | with_reducible refine Exists.intro gu66 ?_ | with_reducible refine Im.and ?_ ?_))); all_goals (first | assumption | trivial | ((with_reducible refine Im.i fun hf_ => ?_); first | exact (A103 hf_) | exact (Gu70 hf_) | exact (Ku69 hf_) | exact (O103u68 hf_).cst | exact ok1.i | (exact LI.z (fun h => absurd h (by decide))) | (exact absurd hf_ (by omega)) | omega) | (unfold NBP; (try simp only [Ks103]); omega) | (unfold NBQ; (try simp only [Ks103]); omega) | omega | (have zz_ := fz_z (by assumption); omega) | (split <;> omega) | done))
            · intro hr_; unfold rng at hr_
              refine ⟨fun c94 => ?_, fun c94 => ?_⟩
              · have z94 := fz_z c94
                intro hr_; unfold rng at hr_
                refine ⟨(by (try simp only [rng, Ks78]); (all_goals (repeat' (first | with_reducible intro _ | with_reducible apply And.intro | with_reducible refine Exists.intro g67 ?_ | with_reducible refine Im.and ?_ ?_))); all_goals (first | assumption | trivial | ((with_reducible refine Im.i fun hf_ => ?_); first | exact (A78 hf_) | exact (Gu63 hf_) | exact (Ku62 hf_) | exact (r67u61 hf_).cst | exact ok1.i | (exact LI.z (fun h => absurd h (by decide))) | (exact absurd hf_ (by omega)) | omega) | (unfold NBP; (try simp only [Ks78]); omega) | (unfold NBQ; (try simp only [Ks78]); omega) | omega | (have zz_ := fz_z (by assumption); omega) | (split <;> omega) | done)), ?_⟩
                refine ⟨(by (try simp only [pre_X14_node_t, reduceIte, and_true, true_and, and_false, false_and, and_self, Nat.reduceEqDiff, fz_sF29, rF_sF, rA_sF, rR_sF, tr_sF, rNMp_sF, PNp_sF, GS_F29, OP_F29, NR_F29, LI_F29, RG_l29, RG_r29, TPRp_sF29, WNp_sF29, VMp_sF29, KYp_sF29, PPp_sF29, WFp_sF29, CCp_sF29, rk_n0 hp_2, Ks78]); (all_goals (repeat' (first | with_reducible intro _ | with_reducible apply And.intro | with_reducible refine Exists.intro g67 ?_ | with_reducible refine Im.and ?_ ?_))); all_goals (first | assumption | trivial | ((with_reducible refine Im.i fun hf_ => ?_); first | exact (A78 hf_) | exact (Gu63 hf_) | exact (Ku62 hf_) | exact (r67u61 hf_).cst | exact ok1.i | (exact LI.z (fun h => absurd h (by decide))) | (exact absurd hf_ (by omega)) | omega) | (unfold NBP; (try simp only [reduceIte, and_true, true_and, and_false, false_and, and_self, Nat.reduceEqDiff, fz_sF29, rF_sF, rA_sF, rR_sF, tr_sF, rNMp_sF, PNp_sF, GS_F29, OP_F29, NR_F29, LI_F29, RG_l29, RG_r29, TPRp_sF29, WNp_sF29, VMp_sF29, KYp_sF29, PPp_sF29, WFp_sF29, CCp_sF29, rk_n0 hp_2, Ks78]); omega) | (unfold NBQ; (try simp only [reduceIte, and_true, true_and, and_false, false_and, and_self, Nat.reduceEqDiff, fz_sF29, rF_sF, rA_sF, rR_sF, tr_sF, rNMp_sF, PNp_sF, GS_F29, OP_F29, NR_F29, LI_F29, RG_l29, RG_r29, TPRp_sF29, WNp_sF29, VMp_sF29, KYp_sF29, PPp_sF29, WFp_sF29, CCp_sF29, rk_n0 hp_2, Ks78]); omega) | omega | (have zz_ := fz_z (by assumption); omega) | (split <;> omega) | done)), ?_⟩
                intro v123 s123 hv123 Ws123 e123_0 e123_1 e123_2 e123_3 e123_4 e123_5 e123_6 e123_7 e123_8 e123_9 e123_10 e123_11 e123_12 e123_13 e123_14 e123_15 e123_16 e123_17 e123_18 e123_19 e123_20 e123_21 e123_22 e123_23 e123_24 e123_25 e123_26 q123
                unfold rng at hv123
                unfold post_X14_node_t at q123
                obtain ⟨q123_1, q123_2, q123_3, q123_4, q123_5, q123_6, q123_7, q123_8, q123_9, q123_10⟩ := q123
                (try simp only [reduceIte, and_true, true_and, and_false, false_and, and_self, Nat.reduceEqDiff, fz_sF29, rF_sF, rA_sF, rR_sF, tr_sF, rNMp_sF, PNp_sF, GS_F29, OP_F29, NR_F29, LI_F29, RG_l29, RG_r29, TPRp_sF29, WNp_sF29, VMp_sF29, KYp_sF29, PPp_sF29, WFp_sF29, CCp_sF29, rk_n0 hp_2, Ks78, NBP, NBQ] at q123_1 q123_2 q123_3 q123_4 q123_5 q123_6 q123_7 q123_8 q123_9 q123_10 e123_0 e123_1 e123_2 e123_3 e123_4 e123_5 e123_6 e123_7 e123_8 e123_9 e123_10 e123_11 e123_12 e123_13 e123_14 e123_15 e123_16 e123_17 e123_18 e123_19 e123_20 e123_21 e123_22 e123_23 e123_24 e123_25 e123_26)
                have Ks123 : rR s123 7 = rR σ 7 := by first | assumption | ((try simp only [rR_sF, rR_sA, rR_sT, rR_sL] at e123_0 e123_1 e123_2 e123_3 e123_4 e123_5 e123_6 e123_7 e123_8 e123_9 e123_10 e123_11 e123_12 e123_13 e123_14 e123_15 e123_16 e123_17 e123_18 e123_19 e123_20 e123_21 e123_22 e123_23 e123_24 e123_25 e123_26); omega)
                have zr123 := fz_rng s123
                have zc123 : fz s123 = 0 → fz s78 = 0 := fun hf => by omega
                have A123 : Im (fz s123 = 0) (RG σ s123 (rR σ 7) 0) := fun hf => RG.trk hp_2 (A78 (zc123 hf)) q123_3 (Or.inr (Or.inl rfl))
                obtain ⟨g123, X123⟩ := EV_37 (P := fz s123 = 0) ((rF σ 0 29) + 1) (rF s67 0 31) hp_2 (fun hf => Gu63 (zc123 hf)) (fun hf => r67u61 (zc123 hf)) (fun _ h => h) (fun hf => q123_3) q123_1 q123_2 q123_4 q123_5 q123_6 q123_9 (fun hf => by (try simp only [rF_sT, rF_sA]); (repeat' (with_reducible apply And.intro)) <;> first | trivial | omega)
                have Ku71 : Im (fz s123 = 0) (GK g g123 (rF σ (rR σ 7) 7) (rF s123 (rR σ 7) 7) 0) := fun hf => GK.kv (Ku62 (zc123 hf)) (X123 hf).2.1 (by omega)
                have Gu72 : Im (fz s123 = 0) _ := fun hf => (X123 hf).1
                have O123 : Im (fz s123 = 0) _ := fun hf => (X123 hf).2.2.1
                have L123_1 : Im (fz s123 = 0) _ := fun hf => (X123 hf).2.2.2.1
                have L123_2 : Im (fz s123 = 0) (LI s123 (rR σ 7) g123 v123 2 37 0) := fun hf => LI.z (fun h => (X123 hf).2.2.2.2.2)
                have rNMp_123 := e123_0 rNMp_78; clear e123_0
                have TPRp_123 := e123_1 TPRp_78; clear e123_1
                have WNp_123 := e123_2 WNp_78; clear e123_2
                have CCp_123 := e123_3 CCp_78; clear e123_3
                refine ⟨g123, ?_⟩
                refine ⟨37, ?_⟩
                refine ⟨(by (try simp only [pre_X14_readArgs, Ks123]); (all_goals (repeat' (first | with_reducible intro _ | with_reducible apply And.intro | with_reducible refine Exists.intro g123 ?_ | with_reducible refine Im.and ?_ ?_))); all_goals (first | assumption | trivial | ((with_reducible refine Im.i fun hf_ => ?_); first | exact (A123 hf_) | exact (Gu72 hf_) | exact (Ku71 hf_) | exact (O123 hf_).cst | exact (L123_1 hf_) | exact (L123_2 hf_) | exact ok1.i | (exact LI.z (fun h => absurd h (by decide))) | (exact absurd hf_ (by omega)) | omega) | (unfold NBP; (try simp only [Ks123]); omega) | (unfold NBQ; (try simp only [Ks123]); omega) | omega | (have zz_ := fz_z (by assumption); omega) | (split <;> omega) | done)), ?_⟩
                refine ⟨(by (try simp only [rk_X14_readArgs, Ks123]); (all_goals (repeat' (first | with_reducible intro _ | with_reducible apply And.intro | with_reducible refine Exists.intro g123 ?_ | with_reducible refine Im.and ?_ ?_))); all_goals (first | assumption | trivial | ((with_reducible refine Im.i fun hf_ => ?_); first | exact (A123 hf_) | exact (Gu72 hf_) | exact (Ku71 hf_) | exact (O123 hf_).cst | exact (L123_1 hf_) | exact (L123_2 hf_) | exact ok1.i | (exact LI.z (fun h => absurd h (by decide))) | (exact absurd hf_ (by omega)) | omega) | (unfold NBP; (try simp only [Ks123]); omega) | (unfold NBQ; (try simp only [Ks123]); omega) | omega | (have zz_ := fz_z (by assumption); omega) | (split <;> omega) | done)), ?_⟩
                intro s131 Ws131 e131_0 e131_1 e131_2 e131_3 e131_4 e131_5 e131_6 e131_7 e131_8 e131_9 q131
                unfold post_X14_readArgs at q131
                obtain ⟨q131_1, q131_2, q131_3, q131_4, q131_5, q131_6⟩ := q131
                (try simp only [Ks123, NBP, NBQ] at q131_1 q131_2 q131_3 q131_4 q131_5 q131_6 e131_0 e131_1 e131_2 e131_3 e131_4 e131_5 e131_6 e131_7 e131_8 e131_9)
                have Ks131 : rR s131 7 = rR σ 7 := by first | assumption | ((try simp only [rR_sF, rR_sA, rR_sT, rR_sL] at e131_0 e131_1 e131_2 e131_3 e131_4 e131_5 e131_6 e131_7 e131_8 e131_9); omega)
                have zr131 := fz_rng s131
                have zc131 : fz s131 = 0 → fz s123 = 0 := fun hf => by omega
                have A131 : Im (fz s131 = 0) (RG σ s131 (rR σ 7) 0) := fun hf => RG.trk hp_2 (A123 (zc131 hf)) (q131_5 (by omega)) (by omega)
                obtain ⟨g131, X131⟩ := q131_6
                have Ku73 : Im (fz s131 = 0) (GK g g131 (rF σ (rR σ 7) 7) (rF s131 (rR σ 7) 7) 0) := fun hf => GK.trans (Ku71 (zc131 hf)) ((X131 hf).2.1) (by omega)
                have Gu74 : Im (fz s131 = 0) (GS s131 (rR σ 7) g131) := fun hf => (X131 hf).1
                have O131 : Im (fz s131 = 0) _ := fun hf => OP.lo (O123 (zc131 hf)) ((X131 hf).2.1) ((X131 hf).2.2.1)
                have TPRp_131 := e131_0 TPRp_123; clear e131_0
                have CCp_131 := e131_1 CCp_123; clear e131_1
                obtain ⟨gu75, Xu76⟩ := EC_37 (P := fz s131 = 0) (rF s131 0 29) Gu74 O131 (fun hf => by omega)
                have O131u77 : Im (fz s131 = 0) _ := fun hf => (Xu76 hf).2.1
                have Ku78 : Im (fz s131 = 0) (GK g gu75 (rF σ (rR σ 7) 7) (rF s131 (rR σ 7) 7) 0) := fun hf => GK.kc (Ku73 hf) (Xu76 hf).2.2 (by omega)
                have Gu79 : Im (fz s131 = 0) _ := fun hf => (Xu76 hf).1
                exact (by (try simp only [post_X14_readPrimary, Ks131]); (all_goals (repeat' (first | with_reducible intro _ | with_reducible apply And.intro | with_reducible refine Exists.intro gu75 ?_ | with_reducible refine Im.and ?_ ?_))); all_goals (first | assumption | trivial | ((with_reducible refine Im.i fun hf_ => ?_); first | exact (A131 hf_) | exact (Gu79 hf_) | exact (Ku78 hf_) | exact (O131u77 hf_).cst | exact ok1.i | (exact LI.z (fun h => absurd h (by decide))) | (exact absurd hf_ (by omega)) | omega) | (unfold NBP; (try simp only [Ks131]); omega) | (unfold NBQ; (try simp only [Ks131]); omega) | omega | (have zz_ := fz_z (by assumption); omega) | (split <;> omega) | done))
              · have z94 := fz_n c94
                refine ⟨(by (try simp only [pre_X14_node_t, Ks78]); (all_goals (repeat' (first | with_reducible intro _ | with_reducible apply And.intro | with_reducible refine Exists.intro g67 ?_ | with_reducible refine Im.and ?_ ?_))); all_goals (first | assumption | trivial | ((with_reducible refine Im.i fun hf_ => ?_); first | exact (A78 hf_) | exact (Gu63 hf_) | exact (Ku62 hf_) | exact (r67u61 hf_).cst | exact ok1.i | (exact LI.z (fun h => absurd h (by decide))) | (exact absurd hf_ (by omega)) | omega) | (unfold NBP; (try simp only [Ks78]); omega) | (unfold NBQ; (try simp only [Ks78]); omega) | omega | (have zz_ := fz_z (by assumption); omega) | (split <;> omega) | done)), ?_⟩
                intro v103 s103 hv103 Ws103 e103_0 e103_1 e103_2 e103_3 e103_4 e103_5 e103_6 e103_7 e103_8 e103_9 e103_10 e103_11 e103_12 e103_13 e103_14 e103_15 e103_16 e103_17 e103_18 e103_19 e103_20 e103_21 e103_22 e103_23 e103_24 e103_25 e103_26 q103
                unfold rng at hv103
                unfold post_X14_node_t at q103
                obtain ⟨q103_1, q103_2, q103_3, q103_4, q103_5, q103_6, q103_7, q103_8, q103_9, q103_10⟩ := q103
                (try simp only [Ks78, NBP, NBQ] at q103_1 q103_2 q103_3 q103_4 q103_5 q103_6 q103_7 q103_8 q103_9 q103_10 e103_0 e103_1 e103_2 e103_3 e103_4 e103_5 e103_6 e103_7 e103_8 e103_9 e103_10 e103_11 e103_12 e103_13 e103_14 e103_15 e103_16 e103_17 e103_18 e103_19 e103_20 e103_21 e103_22 e103_23 e103_24 e103_25 e103_26)
                have Ks103 : rR s103 7 = rR σ 7 := by first | assumption | ((try simp only [rR_sF, rR_sA, rR_sT, rR_sL] at e103_0 e103_1 e103_2 e103_3 e103_4 e103_5 e103_6 e103_7 e103_8 e103_9 e103_10 e103_11 e103_12 e103_13 e103_14 e103_15 e103_16 e103_17 e103_18 e103_19 e103_20 e103_21 e103_22 e103_23 e103_24 e103_25 e103_26); omega)
                have zr103 := fz_rng s103
                have zc103 : fz s103 = 0 → fz s78 = 0 := fun hf => by omega
                have A103 : Im (fz s103 = 0) (RG σ s103 (rR σ 7) 0) := fun hf => RG.trk hp_2 (A78 (zc103 hf)) q103_3 (Or.inr (Or.inl rfl))
                obtain ⟨g103, X103⟩ := EV_39 (P := fz s103 = 0) ((rF σ 0 29) + 1) (rF s67 0 31) hp_2 (fun hf => Gu63 (zc103 hf)) (fun hf => r67u61 (zc103 hf)) (fun _ h => h) (fun hf => q103_3) q103_1 q103_2 q103_4 q103_5 q103_6 q103_9 (fun hf => by (try simp only [rF_sT, rF_sA]); (repeat' (with_reducible apply And.intro)) <;> first | trivial | omega)
                have Ku80 : Im (fz s103 = 0) (GK g g103 (rF σ (rR σ 7) 7) (rF s103 (rR σ 7) 7) 0) := fun hf => GK.kv (Ku62 (zc103 hf)) (X103 hf).2.1 (by omega)
                have Gu81 : Im (fz s103 = 0) _ := fun hf => (X103 hf).1
                have O103 : Im (fz s103 = 0) _ := fun hf => (X103 hf).2.2.1
                have L103_1 : Im (fz s103 = 0) _ := fun hf => (X103 hf).2.2.2.1
                have rNMp_103 := e103_0 rNMp_78; clear e103_0
                have TPRp_103 := e103_1 TPRp_78; clear e103_1
                have WNp_103 := e103_2 WNp_78; clear e103_2
                have CCp_103 := e103_3 CCp_78; clear e103_3
                obtain ⟨gu82, Xu83⟩ := EC_39 (P := fz s103 = 0) (rF s78 0 29) Gu81 O103 (fun hf => by omega)
                have O103u84 : Im (fz s103 = 0) _ := fun hf => (Xu83 hf).2.1
                have Ku85 : Im (fz s103 = 0) (GK g gu82 (rF σ (rR σ 7) 7) (rF s103 (rR σ 7) 7) 0) := fun hf => GK.kc (Ku80 hf) (Xu83 hf).2.2 (by omega)
                have Gu86 : Im (fz s103 = 0) _ := fun hf => (Xu83 hf).1
                exact (by (try simp only [post_X14_readPrimary, Ks103]); (all_goals (repeat' (first | with_reducible intro _ | with_reducible apply And.intro | with_reducible refine Exists.intro gu82 ?_ | with_reducible refine Im.and ?_ ?_))); all_goals (first | assumption | trivial | ((with_reducible refine Im.i fun hf_ => ?_); first | exact (A103 hf_) | exact (Gu86 hf_) | exact (Ku85 hf_) | exact (O103u84 hf_).cst | exact ok1.i | (exact LI.z (fun h => absurd h (by decide))) | (exact absurd hf_ (by omega)) | omega) | (unfold NBP; (try simp only [Ks103]); omega) | (unfold NBQ; (try simp only [Ks103]); omega) | omega | (have zz_ := fz_z (by assumption); omega) | (split <;> omega) | done))
        · refine ⟨g, ?_⟩
          refine ⟨(by (try simp only [pre_X14_readRow]); (all_goals (repeat' (first | with_reducible intro _ | with_reducible apply And.intro | with_reducible refine Exists.intro g ?_ | with_reducible refine Im.and ?_ ?_))); all_goals (first | assumption | trivial | ((with_reducible refine Im.i fun hf_ => ?_); first | exact ((fun _ => RG.rf) hf_) | exact (hp_8 hf_) | exact ((fun _ => GK.rf) hf_) | exact ok1.i | (exact LI.z (fun h => absurd h (by decide))) | (exact absurd hf_ (by omega)) | omega) | (unfold NBP; omega) | (unfold NBQ; omega) | omega | (have zz_ := fz_z (by assumption); omega) | (split <;> omega) | done)), ?_⟩
          refine ⟨(by (try simp only [rk_X14_readRow]); (all_goals (repeat' (first | with_reducible intro _ | with_reducible apply And.intro | with_reducible refine Exists.intro g ?_ | with_reducible refine Im.and ?_ ?_))); all_goals (first | assumption | trivial | ((with_reducible refine Im.i fun hf_ => ?_); first | exact ((fun _ => RG.rf) hf_) | exact (hp_8 hf_) | exact ((fun _ => GK.rf) hf_) | exact ok1.i | (exact LI.z (fun h => absurd h (by decide))) | (exact absurd hf_ (by omega)) | omega) | (unfold NBP; omega) | (unfold NBQ; omega) | omega | (have zz_ := fz_z (by assumption); omega) | (split <;> omega) | done)), ?_⟩
          intro v46 s46 hv46 Ws46 e46_0 e46_1 e46_2 e46_3 e46_4 e46_5 e46_6 e46_7 e46_8 e46_9 q46
          unfold rng at hv46
          unfold post_X14_readRow at q46
          obtain ⟨q46_1, q46_2, q46_3, q46_4, q46_5, q46_6, q46_7, q46_8, q46_9⟩ := q46
          (try simp only [NBP, NBQ] at q46_1 q46_2 q46_3 q46_4 q46_5 q46_6 q46_7 q46_8 q46_9 e46_0 e46_1 e46_2 e46_3 e46_4 e46_5 e46_6 e46_7 e46_8 e46_9)
          have Ks46 : rR s46 7 = rR σ 7 := by first | assumption | ((try simp only [rR_sF, rR_sA, rR_sT, rR_sL] at e46_0 e46_1 e46_2 e46_3 e46_4 e46_5 e46_6 e46_7 e46_8 e46_9); omega)
          have zr46 := fz_rng s46
          have zc46 : fz s46 = 0 → fz σ = 0 := fun hf => by omega
          have A46 : Im (fz s46 = 0) (RG σ s46 (rR σ 7) 0) := fun hf => RG.trk hp_2 ((fun _ => RG.rf) (zc46 hf)) (q46_8 (by omega)) (Or.inr (Or.inl rfl))
          obtain ⟨g46, X46⟩ := q46_9
          have Ku87 : Im (fz s46 = 0) (GK g g46 (rF σ (rR σ 7) 7) (rF s46 (rR σ 7) 7) 0) := fun hf => GK.trans ((fun _ => GK.rf) (zc46 hf)) ((X46 hf).2.1) (Or.inr (Or.inl rfl))
          have Gu88 : Im (fz s46 = 0) (GS s46 (rR σ 7) g46) := fun hf => (X46 hf).1
          have r46 : Im (fz s46 = 0) _ := fun hf => (X46 hf).2.2.1
          have TPRp_46 := e46_0 hC1; clear e46_0
          have CCp_46 := e46_1 hp_3; clear e46_1
          exact (by (try simp only [post_X14_readPrimary, Ks46]); (all_goals (repeat' (first | with_reducible intro _ | with_reducible apply And.intro | with_reducible refine Exists.intro g46 ?_ | with_reducible refine Im.and ?_ ?_))); all_goals (first | assumption | trivial | ((with_reducible refine Im.i fun hf_ => ?_); first | exact (A46 hf_) | exact (Gu88 hf_) | exact (Ku87 hf_) | exact (r46 hf_).cst | exact ok1.i | (exact LI.z (fun h => absurd h (by decide))) | (exact absurd hf_ (by omega)) | omega) | (unfold NBP; (try simp only [Ks46]); omega) | (unfold NBQ; (try simp only [Ks46]); omega) | omega | (have zz_ := fz_z (by assumption); omega) | (split <;> omega) | done))
      · refine ⟨g, ?_⟩
        refine ⟨(by (try simp only [pre_X14_readSub]); (all_goals (repeat' (first | with_reducible intro _ | with_reducible apply And.intro | with_reducible refine Exists.intro g ?_ | with_reducible refine Im.and ?_ ?_))); all_goals (first | assumption | trivial | ((with_reducible refine Im.i fun hf_ => ?_); first | exact ((fun _ => RG.rf) hf_) | exact (hp_8 hf_) | exact ((fun _ => GK.rf) hf_) | exact ok1.i | (exact LI.z (fun h => absurd h (by decide))) | (exact absurd hf_ (by omega)) | omega) | (unfold NBP; omega) | (unfold NBQ; omega) | omega | (have zz_ := fz_z (by assumption); omega) | (split <;> omega) | done)), ?_⟩
        refine ⟨(by (try simp only [rk_X14_readSub]); (all_goals (repeat' (first | with_reducible intro _ | with_reducible apply And.intro | with_reducible refine Exists.intro g ?_ | with_reducible refine Im.and ?_ ?_))); all_goals (first | assumption | trivial | ((with_reducible refine Im.i fun hf_ => ?_); first | exact ((fun _ => RG.rf) hf_) | exact (hp_8 hf_) | exact ((fun _ => GK.rf) hf_) | exact ok1.i | (exact LI.z (fun h => absurd h (by decide))) | (exact absurd hf_ (by omega)) | omega) | (unfold NBP; omega) | (unfold NBQ; omega) | omega | (have zz_ := fz_z (by assumption); omega) | (split <;> omega) | done)), ?_⟩
        intro v35 s35 hv35 Ws35 e35_0 e35_1 e35_2 e35_3 e35_4 e35_5 e35_6 e35_7 e35_8 e35_9 q35
        unfold rng at hv35
        unfold post_X14_readSub at q35
        obtain ⟨q35_1, q35_2, q35_3, q35_4, q35_5, q35_6, q35_7, q35_8, q35_9, q35_10⟩ := q35
        (try simp only [NBP, NBQ] at q35_1 q35_2 q35_3 q35_4 q35_5 q35_6 q35_7 q35_8 q35_9 q35_10 e35_0 e35_1 e35_2 e35_3 e35_4 e35_5 e35_6 e35_7 e35_8 e35_9)
        have Ks35 : rR s35 7 = rR σ 7 := by first | assumption | ((try simp only [rR_sF, rR_sA, rR_sT, rR_sL] at e35_0 e35_1 e35_2 e35_3 e35_4 e35_5 e35_6 e35_7 e35_8 e35_9); omega)
        have zr35 := fz_rng s35
        have zc35 : fz s35 = 0 → fz σ = 0 := fun hf => by omega
        have A35 : Im (fz s35 = 0) (RG σ s35 (rR σ 7) 0) := fun hf => RG.trk hp_2 ((fun _ => RG.rf) (zc35 hf)) (q35_9 (by omega)) (Or.inr (Or.inl rfl))
        obtain ⟨g35, X35⟩ := q35_10
        have Ku89 : Im (fz s35 = 0) (GK g g35 (rF σ (rR σ 7) 7) (rF s35 (rR σ 7) 7) 0) := fun hf => GK.trans ((fun _ => GK.rf) (zc35 hf)) ((X35 hf).2.1) (Or.inr (Or.inl rfl))
        have Gu90 : Im (fz s35 = 0) (GS s35 (rR σ 7) g35) := fun hf => (X35 hf).1
        have r35 : Im (fz s35 = 0) _ := fun hf => (X35 hf).2.2.1
        have TPRp_35 := e35_0 hC1; clear e35_0
        have CCp_35 := e35_1 hp_3; clear e35_1
        exact (by (try simp only [post_X14_readPrimary, Ks35]); (all_goals (repeat' (first | with_reducible intro _ | with_reducible apply And.intro | with_reducible refine Exists.intro g35 ?_ | with_reducible refine Im.and ?_ ?_))); all_goals (first | assumption | trivial | ((with_reducible refine Im.i fun hf_ => ?_); first | exact (A35 hf_) | exact (Gu90 hf_) | exact (Ku89 hf_) | exact (r35 hf_).cst | exact ((r35 hf_).so so_10_2).cst | exact ok1.i | (exact LI.z (fun h => absurd h (by decide))) | (exact absurd hf_ (by omega)) | omega) | (unfold NBP; (try simp only [Ks35]); omega) | (unfold NBQ; (try simp only [Ks35]); omega) | omega | (have zz_ := fz_z (by assumption); omega) | (split <;> omega) | done))
    · refine ⟨g, ?_⟩
      refine ⟨(by (try simp only [pre_X14_readString_g]); (all_goals (repeat' (first | with_reducible intro _ | with_reducible apply And.intro | with_reducible refine Exists.intro g ?_ | with_reducible refine Im.and ?_ ?_))); all_goals (first | assumption | trivial | ((with_reducible refine Im.i fun hf_ => ?_); first | exact ((fun _ => RG.rf) hf_) | exact (hp_8 hf_) | exact ((fun _ => GK.rf) hf_) | exact ok1.i | (exact LI.z (fun h => absurd h (by decide))) | (exact absurd hf_ (by omega)) | omega) | (unfold NBP; omega) | (unfold NBQ; omega) | omega | (have zz_ := fz_z (by assumption); omega) | (split <;> omega) | done)), ?_⟩
      intro v24 s24 hv24 Ws24 e24_0 e24_1 e24_2 e24_3 e24_4 e24_5 e24_6 e24_7 e24_8 e24_9 e24_10 e24_11 e24_12 e24_13 e24_14 e24_15 e24_16 e24_17 e24_18 e24_19 e24_20 e24_21 q24
      unfold rng at hv24
      unfold post_X14_readString_g at q24
      obtain ⟨q24_1, q24_2, q24_3, q24_4, q24_5, q24_6, q24_7, q24_8, q24_9, q24_10, q24_11, q24_12, q24_13, q24_14, q24_15⟩ := q24
      (try simp only [NBP, NBQ] at q24_1 q24_2 q24_3 q24_4 q24_5 q24_6 q24_7 q24_8 q24_9 q24_10 q24_11 q24_12 q24_13 q24_14 q24_15 e24_0 e24_1 e24_2 e24_3 e24_4 e24_5 e24_6 e24_7 e24_8 e24_9 e24_10 e24_11 e24_12 e24_13 e24_14 e24_15 e24_16 e24_17 e24_18 e24_19 e24_20 e24_21)
      have Ks24 : rR s24 7 = rR σ 7 := by first | assumption | ((try simp only [rR_sF, rR_sA, rR_sT, rR_sL] at e24_0 e24_1 e24_2 e24_3 e24_4 e24_5 e24_6 e24_7 e24_8 e24_9 e24_10 e24_11 e24_12 e24_13 e24_14 e24_15 e24_16 e24_17 e24_18 e24_19 e24_20 e24_21); omega)
      have zr24 := fz_rng s24
      have zc24 : fz s24 = 0 → fz σ = 0 := fun hf => by omega
      have A24 : Im (fz s24 = 0) (RG σ s24 (rR σ 7) 0) := fun hf => RG.trk hp_2 ((fun _ => RG.rf) (zc24 hf)) (q24_14 (by omega)) (Or.inr (Or.inl rfl))
      obtain ⟨g24, X24⟩ := q24_15
      have Ku91 : Im (fz s24 = 0) (GK g g24 (rF σ (rR σ 7) 7) (rF s24 (rR σ 7) 7) 0) := fun hf => GK.trans ((fun _ => GK.rf) (zc24 hf)) ((X24 hf).2.1) (Or.inr (Or.inl rfl))
      have Gu92 : Im (fz s24 = 0) (GS s24 (rR σ 7) g24) := fun hf => (X24 hf).1
      have r24 : Im (fz s24 = 0) _ := fun hf => (X24 hf).2.2.1
      have TPRp_24 := e24_0 hC1; clear e24_0
      have WNp_24 := e24_1 hp_6; clear e24_1
      have CCp_24 := e24_2 hp_3; clear e24_2
      exact (by (try simp only [post_X14_readPrimary, Ks24]); (all_goals (repeat' (first | with_reducible intro _ | with_reducible apply And.intro | with_reducible refine Exists.intro g24 ?_ | with_reducible refine Im.and ?_ ?_))); all_goals (first | assumption | trivial | ((with_reducible refine Im.i fun hf_ => ?_); first | exact (A24 hf_) | exact (Gu92 hf_) | exact (Ku91 hf_) | exact (r24 hf_).cst | exact ok1.i | (exact LI.z (fun h => absurd h (by decide))) | (exact absurd hf_ (by omega)) | omega) | (unfold NBP; (try simp only [Ks24]); omega) | (unfold NBQ; (try simp only [Ks24]); omega) | omega | (have zz_ := fz_z (by assumption); omega) | (split <;> omega) | done))
