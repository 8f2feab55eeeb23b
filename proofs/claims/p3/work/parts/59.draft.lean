set_option maxHeartbeats 20000000 in
theorem vX14_readBoth (n : Nat) (σ : rS) (gg : Nat) (g : Nat → Int → Int) (hwf : rWF σ) (hp : pre_X14_readBoth σ gg g) (hr : rk_X14_readBoth σ gg g ≤ n + 1) : VC_X14_readBoth n σ gg g (post_X14_readBoth σ gg g) := by
  unfold pre_X14_readBoth at hp
  obtain ⟨hp_1, hp_2, hp_3, hp_4, hp_5, hp_6, hp_7, hp_8⟩ := hp
  subst hp_1
  unfold rk_X14_readBoth at hr
  have hN := hp_4
  unfold NBP at hN
  have hC := hp_3
  unfold CCp at hC
  obtain ⟨hC1, hC⟩ := hC
  have zr0 := fz_rng σ
  have hr2 : fz σ = 0 → 16 * (21 - rF σ 0 31).toNat + 10 ≤ n + 1 := fun h => by rw [if_pos h] at hr; exact hr
  have hr3 : 10 ≤ n + 1 := by have := hr; split at this <;> omega
  clear hr
  unfold VC_X14_readBoth
  refine ⟨(by (all_goals (repeat' (first | with_reducible intro _ | with_reducible apply And.intro))); all_goals (first | assumption | trivial | (unfold NBP; omega) | (unfold NBQ; omega) | omega | (have zz_ := fz_z (by assumption); omega) | (split <;> omega) | (exact (show ORp _ _ from Or.inl (by omega))) | done)), ?_⟩
  refine ⟨g, ?_⟩
  refine ⟨(by (try simp only [pre_X14_readNot]); (all_goals (repeat' (first | with_reducible intro _ | with_reducible apply And.intro | with_reducible refine Exists.intro g ?_ | with_reducible refine Im.and ?_ ?_))); all_goals (first | assumption | trivial | ((with_reducible refine Im.i fun hf_ => ?_); first | exact ((fun _ => RG.rf) hf_) | exact (hp_8 hf_) | exact ((fun _ => GK.rf) hf_) | exact ok1.i | (exact LI.z (fun h => absurd h (by decide))) | (exact absurd hf_ (by omega)) | omega) | (unfold NBP; omega) | (unfold NBQ; omega) | omega | (have zz_ := fz_z (by assumption); omega) | (split <;> omega) | (exact (show ORp _ _ from Or.inl (by omega))) | done)), ?_⟩
  refine ⟨(by (try simp only [rk_X14_readNot]); (all_goals (repeat' (first | with_reducible intro _ | with_reducible apply And.intro | with_reducible refine Exists.intro g ?_ | with_reducible refine Im.and ?_ ?_))); all_goals (first | assumption | trivial | ((with_reducible refine Im.i fun hf_ => ?_); first | exact ((fun _ => RG.rf) hf_) | exact (hp_8 hf_) | exact ((fun _ => GK.rf) hf_) | exact ok1.i | (exact LI.z (fun h => absurd h (by decide))) | (exact absurd hf_ (by omega)) | omega) | (unfold NBP; omega) | (unfold NBQ; omega) | omega | (have zz_ := fz_z (by assumption); omega) | (split <;> omega) | (exact (show ORp _ _ from Or.inl (by omega))) | done)), ?_⟩
  intro v1 s1 hv1 Ws1 e1_0 e1_1 e1_2 e1_3 e1_4 e1_5 e1_6 e1_7 e1_8 q1
  unfold rng at hv1
  unfold post_X14_readNot at q1
  obtain ⟨q1_1, q1_2, q1_3, q1_4, q1_5, q1_6, q1_7, q1_8, q1_9⟩ := q1
  (try simp only [NBP, NBQ] at q1_1 q1_2 q1_3 q1_4 q1_5 q1_6 q1_7 q1_8 q1_9 e1_0 e1_1 e1_2 e1_3 e1_4 e1_5 e1_6 e1_7 e1_8)
  have Ks1 : rR s1 7 = rR σ 7 := by first | assumption | ((try simp only [rR_sF, rR_sA, rR_sT, rR_sL] at e1_0 e1_1 e1_2 e1_3 e1_4 e1_5 e1_6 e1_7 e1_8); omega)
  have zr1 := fz_rng s1
  have zc1 : fz s1 = 0 → fz σ = 0 := fun hf => by omega
  have A1 : Im (fz s1 = 0) (RG σ s1 (rR σ 7) 0) := fun hf => RG.trk hp_2 ((fun _ => RG.rf) (zc1 hf)) (q1_8 (by omega)) (Or.inr (Or.inl rfl))
  obtain ⟨g1, X1⟩ := q1_9
  have Ku1 : Im (fz s1 = 0) (GK g g1 (rF σ (rR σ 7) 7) (rF s1 (rR σ 7) 7) 0) := fun hf => GK.trans ((fun _ => GK.rf) (zc1 hf)) ((X1 hf).2.1) (Or.inr (Or.inl rfl))
  have Gu2 : Im (fz s1 = 0) (GS s1 (rR σ 7) g1) := fun hf => (X1 hf).1
  have r1 : Im (fz s1 = 0) _ := fun hf => (X1 hf).2.2.1
  have CCp_1 := e1_0 hp_3; clear e1_0
  refine ⟨(by (try simp only [pre_X14_blanks, Ks1]); (all_goals (repeat' (first | with_reducible intro _ | with_reducible apply And.intro | with_reducible refine Exists.intro g1 ?_ | with_reducible refine Im.and ?_ ?_))); all_goals (first | assumption | trivial | ((with_reducible refine Im.i fun hf_ => ?_); first | exact (A1 hf_) | exact (Gu2 hf_) | exact (Ku1 hf_) | exact (r1 hf_).cst | exact ((r1 hf_).so so_16_15).cst | exact ((r1 hf_).so so_16_14).cst | exact ok1.i | (exact LI.z (fun h => absurd h (by decide))) | (exact absurd hf_ (by omega)) | omega) | (unfold NBP; (try simp only [Ks1]); omega) | (unfold NBQ; (try simp only [Ks1]); omega) | omega | (have zz_ := fz_z (by assumption); omega) | (split <;> omega) | (exact (show ORp _ _ from Or.inl (by omega))) | done)), ?_⟩
  intro s6 Ws6 e6_0 e6_1 e6_2 e6_3 e6_4 e6_5 e6_6 e6_7 e6_8 e6_9 e6_10 e6_11 e6_12 e6_13 e6_14 e6_15 e6_16 e6_17 e6_18 e6_19 e6_20 R6 q6
  have q6 := dig_blanks q6 (by (try simp only [Ks1]); omega)
  obtain ⟨q6_1, q6_2⟩ := q6
  (try simp only [Ks1, NBP, NBQ] at q6_1 q6_2 e6_0 e6_1 e6_2 e6_3 e6_4 e6_5 e6_6 e6_7 e6_8 e6_9 e6_10 e6_11 e6_12 e6_13 e6_14 e6_15 e6_16 e6_17 e6_18 e6_19 e6_20 R6)
  have Ks6 : rR s6 7 = rR σ 7 := by first | assumption | ((try simp only [rR_sF, rR_sA, rR_sT, rR_sL] at e6_0 e6_1 e6_2 e6_3 e6_4 e6_5 e6_6 e6_7 e6_8 e6_9 e6_10 e6_11 e6_12 e6_13 e6_14 e6_15 e6_16 e6_17 e6_18 e6_19 e6_20 R6); omega)
  have zr6 := fz_rng s6
  have zc6 : fz s6 = 0 → fz s1 = 0 := fun hf => by omega
  have A6 : Im (fz s6 = 0) (RG σ s6 (rR σ 7) 0) := fun hf => RG.trk hp_2 (A1 (zc6 hf)) R6 (Or.inr (Or.inl rfl))
  have r1u3 : Im (fz s6 = 0) _ := fun hf => NR.gk (r1 (zc6 hf)) (GK.up (g := g1) (N := rF s1 (rR σ 7) 7) (N' := rF s6 (rR σ 7) 7) (c := 0) (by first | assumption | omega | (simp only [rF_sT, rF_sA]; omega)))
  have Ku4 : Im (fz s6 = 0) (GK g g1 (rF σ (rR σ 7) 7) (rF s6 (rR σ 7) 7) 0) := fun hf => GK.trans (Ku1 (zc6 hf)) (GK.up (N := rF s1 (rR σ 7) 7) (N' := rF s6 (rR σ 7) 7) (c := 0) (by first | assumption | omega | (simp only [rF_sT, rF_sA]; omega))) (Or.inr (Or.inl rfl))
  have Gu5 : Im (fz s6 = 0) (GS s6 (rR σ 7) g1) := fun hf => GS.mv hp_2 (Gu2 (zc6 hf)) R6 (by first | assumption | omega | (simp only [rF_sT, rF_sA]; omega)) (by first | (exact Int.le_of_eq (Eq.symm (by assumption))) | omega | (simp only [rF_sT, rF_sA]; omega))
  have rNMp_6 := e6_0 q1_2; clear e6_0
  have WNp_6 := e6_1 q1_3; clear e6_1
  have PNp_6 := e6_2 q1_4; clear e6_2
  have CCp_6 := e6_3 CCp_1; clear e6_3
  intro hr_; unfold rng at hr_
  refine ⟨fun c13 => ?_, fun c13 => ?_⟩
  · have z13 := fz_n c13
    exact (by (try simp only [post_X14_readBoth, Ks6]); (all_goals (repeat' (first | with_reducible intro _ | with_reducible apply And.intro | with_reducible refine Exists.intro g1 ?_ | with_reducible refine Im.and ?_ ?_))); all_goals (first | assumption | trivial | ((with_reducible refine Im.i fun hf_ => ?_); first | exact (A6 hf_) | exact (Gu5 hf_) | exact (Ku4 hf_) | exact (r1u3 hf_).cst | exact ((r1u3 hf_).so so_16_15).cst | exact ((r1u3 hf_).so so_16_14).cst | exact ok1.i | (exact LI.z (fun h => absurd h (by decide))) | (exact absurd hf_ (by omega)) | omega) | (unfold NBP; (try simp only [Ks6]); omega) | (unfold NBQ; (try simp only [Ks6]); omega) | omega | (have zz_ := fz_z (by assumption); omega) | (split <;> omega) | (exact (show ORp _ _ from Or.inl (by omega))) | done))
  · have z13 := fz_z c13
    refine ⟨(by (try simp only [pre_X14_isTwice_t, Ks6]); (all_goals (repeat' (first | with_reducible intro _ | with_reducible apply And.intro | with_reducible refine Exists.intro g1 ?_ | with_reducible refine Im.and ?_ ?_))); all_goals (first | assumption | trivial | ((with_reducible refine Im.i fun hf_ => ?_); first | exact (A6 hf_) | exact (Gu5 hf_) | exact (Ku4 hf_) | exact (r1u3 hf_).cst | exact ((r1u3 hf_).so so_16_15).cst | exact ((r1u3 hf_).so so_16_14).cst | exact ok1.i | (exact LI.z (fun h => absurd h (by decide))) | (exact absurd hf_ (by omega)) | omega) | (unfold NBP; (try simp only [Ks6]); omega) | (unfold NBQ; (try simp only [Ks6]); omega) | omega | (have zz_ := fz_z (by assumption); omega) | (split <;> omega) | (exact (show ORp _ _ from Or.inl (by omega))) | done)), ?_⟩
    intro v19 hv19 q19
    unfold rng at hv19
    unfold post_X14_isTwice_t at q19
    obtain ⟨q19_1, q19_2, q19_3, q19_4⟩ := q19
    (try simp only [Ks6, NBP, NBQ] at q19_1 q19_2 q19_3 q19_4)
    refine ⟨fun c22 => ?_, fun c22 => ?_⟩
    · refine ⟨(by (try simp only [pre_X14_node_t, Ks6]); (all_goals (repeat' (first | with_reducible intro _ | with_reducible apply And.intro | with_reducible refine Exists.intro g1 ?_ | with_reducible refine Im.and ?_ ?_))); all_goals (first | assumption | trivial | ((with_reducible refine Im.i fun hf_ => ?_); first | exact (A6 hf_) | exact (Gu5 hf_) | exact (Ku4 hf_) | exact (r1u3 hf_).cst | exact ((r1u3 hf_).so so_16_15).cst | exact ((r1u3 hf_).so so_16_14).cst | exact ok1.i | (exact LI.z (fun h => absurd h (by decide))) | (exact absurd hf_ (by omega)) | omega) | (unfold NBP; (try simp only [Ks6]); omega) | (unfold NBQ; (try simp only [Ks6]); omega) | omega | (have zz_ := fz_z (by assumption); omega) | (split <;> omega) | (exact (show ORp _ _ from Or.inl (by omega))) | done)), ?_⟩
      intro v33 s33 hv33 Ws33 e33_0 e33_1 e33_2 e33_3 e33_4 e33_5 e33_6 e33_7 e33_8 e33_9 e33_10 e33_11 e33_12 e33_13 e33_14 e33_15 e33_16 e33_17 e33_18 e33_19 e33_20 q33
      unfold rng at hv33
      unfold post_X14_node_t at q33
      obtain ⟨q33_1, q33_2, q33_3, q33_4, q33_5, q33_6, q33_7, q33_8, q33_9⟩ := q33
      (try simp only [Ks6, NBP, NBQ] at q33_1 q33_2 q33_3 q33_4 q33_5 q33_6 q33_7 q33_8 q33_9 e33_0 e33_1 e33_2 e33_3 e33_4 e33_5 e33_6 e33_7 e33_8 e33_9 e33_10 e33_11 e33_12 e33_13 e33_14 e33_15 e33_16 e33_17 e33_18 e33_19 e33_20)
      have Ks33 : rR s33 7 = rR σ 7 := by first | assumption | ((try simp only [rR_sF, rR_sA, rR_sT, rR_sL] at e33_0 e33_1 e33_2 e33_3 e33_4 e33_5 e33_6 e33_7 e33_8 e33_9 e33_10 e33_11 e33_12 e33_13 e33_14 e33_15 e33_16 e33_17 e33_18 e33_19 e33_20); omega)
      have zr33 := fz_rng s33
      have zc33 : fz s33 = 0 → fz s6 = 0 := fun hf => by omega
      have A33 : Im (fz s33 = 0) (RG σ s33 (rR σ 7) 0) := fun hf => RG.trk hp_2 (A6 (zc33 hf)) q33_3 (Or.inr (Or.inl rfl))
      obtain ⟨g33, X33⟩ := EV_56 (P := fz s33 = 0) (rF σ 0 29) (rF s1 0 31) hp_2 (fun hf => Gu5 (zc33 hf)) (fun hf => r1u3 (zc33 hf)) (fun _ h => h) (fun hf => q33_3) q33_1 q33_2 q33_4 q33_5 q33_6 q33_9 (fun hf => by (try simp only [rF_sT, rF_sA]); (repeat' (with_reducible apply And.intro)) <;> first | trivial | omega)
      have Ku6 : Im (fz s33 = 0) (GK g g33 (rF σ (rR σ 7) 7) (rF s33 (rR σ 7) 7) 0) := fun hf => GK.kv (Ku4 (zc33 hf)) (X33 hf).2.1 (by omega)
      have Gu7 : Im (fz s33 = 0) _ := fun hf => (X33 hf).1
      have O33 : Im (fz s33 = 0) _ := fun hf => (X33 hf).2.2.1
      have L33_1 : Im (fz s33 = 0) _ := fun hf => (X33 hf).2.2.2.1
      have rNMp_33 := e33_0 rNMp_6; clear e33_0
      have WNp_33 := e33_1 WNp_6; clear e33_1
      have PNp_33 := e33_2 PNp_6; clear e33_2
      have CCp_33 := e33_3 CCp_6; clear e33_3
      have TW_ : ORp (rF s33 (rR σ 7) 7 + 3 * rF s33 0 38 + 4 * rF σ 0 29 + 1 ≤ rF σ (rR σ 7) 7 + 3 * rF σ 0 38 + 4 * rF s33 0 29) (TWp (rA s33 1026) (rF σ 0 28) (rF s33 0 29) 38) := Or.inr (by rw [show rA s33 1026 = rA s6 1026 from funext (by assumption), show rF s33 0 29 = rF s6 0 29 by omega, show rF σ 0 28 = rF s6 0 28 by omega]; exact q19_3 (by omega))
      exact (by (try simp only [inv_X14_readBoth_39, Ks33]); (all_goals (repeat' (first | with_reducible intro _ | with_reducible apply And.intro | with_reducible refine Exists.intro g33 ?_ | with_reducible refine Im.and ?_ ?_))); all_goals (first | assumption | trivial | ((with_reducible refine Im.i fun hf_ => ?_); first | exact (A33 hf_) | exact (Gu7 hf_) | exact (Ku6 hf_) | exact (O33 hf_).cst | exact (L33_1 hf_) | exact ok1.i | (exact LI.z (fun h => absurd h (by decide))) | (exact absurd hf_ (by omega)) | omega) | (unfold NBP; (try simp only [Ks33]); omega) | (unfold NBQ; (try simp only [Ks33]); omega) | omega | (have zz_ := fz_z (by assumption); omega) | (split <;> omega) | (exact (show ORp _ _ from Or.inl (by omega))) | done))
    · exact (by (try simp only [post_X14_readBoth, Ks6]); (all_goals (repeat' (first | with_reducible intro _ | with_reducible apply And.intro | with_reducible refine Exists.intro g1 ?_ | with_reducible refine Im.and ?_ ?_))); all_goals (first | assumption | trivial | ((with_reducible refine Im.i fun hf_ => ?_); first | exact (A6 hf_) | exact (Gu5 hf_) | exact (Ku4 hf_) | exact (r1u3 hf_).cst | exact ((r1u3 hf_).so so_16_15).cst | exact ((r1u3 hf_).so so_16_14).cst | exact ok1.i | (exact LI.z (fun h => absurd h (by decide))) | (exact absurd hf_ (by omega)) | omega) | (unfold NBP; (try simp only [Ks6]); omega) | (unfold NBQ; (try simp only [Ks6]); omega) | omega | (have zz_ := fz_z (by assumption); omega) | (split <;> omega) | (exact (show ORp _ _ from Or.inl (by omega))) | done))
set_option maxHeartbeats 20000000 in
theorem vX14_readBoth_39 (n : Nat) (σ : rS) (gg : Nat) (g : Nat → Int → Int) (hwf : rWF σ) (hp : pre_X14_readBoth σ gg g) (hr : rk_X14_readBoth σ gg g ≤ n + 1) : VC_X14_readBoth_39 n σ gg g (post_X14_readBoth σ gg g) := by
  unfold pre_X14_readBoth at hp
  obtain ⟨hp_1, hp_2, hp_3, hp_4, hp_5, hp_6, hp_7, hp_8⟩ := hp
  subst hp_1
  unfold rk_X14_readBoth at hr
  have hN := hp_4
  unfold NBP at hN
  have hC := hp_3
  unfold CCp at hC
  obtain ⟨hC1, hC⟩ := hC
  have zr0 := fz_rng σ
  have hr2 : fz σ = 0 → 16 * (21 - rF σ 0 31).toNat + 10 ≤ n + 1 := fun h => by rw [if_pos h] at hr; exact hr
  have hr3 : 10 ≤ n + 1 := by have := hr; split at this <;> omega
  clear hr
  unfold VC_X14_readBoth_39
  intro s39 y39_2 y39_3 Ws39 hy39_2 hy39_3 e39_0 e39_1 e39_2 e39_3 e39_4 e39_5 e39_6 e39_7 e39_8 I39
  have Ks39 : rR s39 7 = rR σ 7 := by omega
  unfold inv_X14_readBoth_39 at I39
  obtain ⟨I39_1, I39_2, I39_3, I39_4, I39_5, I39_6, I39_7, I39_8, I39_9, I39_10, I39_11, I39_12, I39_13, I39_14⟩ := I39
  (try simp only [Ks39, NBP, NBQ] at I39_1 I39_2 I39_3 I39_4 I39_5 I39_6 I39_7 I39_8 I39_9 I39_10 I39_11 I39_12 I39_13 I39_14)
  have zr39 := fz_rng s39
  have CCp_39 := e39_0 hp_3; clear e39_0
  obtain ⟨g39, X39⟩ := I39_14
  have G39 : Im (fz s39 = 0) _ := fun hf => (X39 hf).1
  have KA39 : Im (fz s39 = 0) _ := fun hf => (X39 hf).2.1
  have O39 : Im (fz s39 = 0) _ := fun hf => (X39 hf).2.2.1
  have L39 : Im (fz s39 = 0) _ := fun hf => (X39 hf).2.2.2.1
  intro hr_; unfold rng at hr_
  refine ⟨fun c43 => ?_, fun c43 => ?_⟩
  · have z43 := fz_n c43
    try have S1_ := S_ (by omega)
    obtain ⟨gu8, Xu9⟩ := EC_56 (P := fz s39 = 0) (rF s39 0 29) G39 O39 (fun hf => by omega)
    have Ou10 : Im (fz s39 = 0) _ := fun hf => (Xu9 hf).2.1
    have Ku11 : Im (fz s39 = 0) (GK g gu8 (rF σ (rR σ 7) 7) (rF s39 (rR σ 7) 7) 0) := fun hf => GK.kc (KA39 hf) (Xu9 hf).2.2 (by omega)
    have Gu12 : Im (fz s39 = 0) _ := fun hf => (Xu9 hf).1
    exact (by (try simp only [post_X14_readBoth, Ks39]); (all_goals (repeat' (first | with_reducible intro _ | with_reducible apply And.intro | with_reducible refine Exists.intro gu8 ?_ | with_reducible refine Im.and ?_ ?_))); all_goals (first | assumption | trivial | ((with_reducible refine Im.i fun hf_ => ?_); first | exact (I39_13 hf_) | exact (Gu12 hf_) | exact (Ku11 hf_) | exact (Ou10 hf_).cst | exact ((Ou10 hf_).so so_15_14).cst | exact ok1.i | (exact LI.z (fun h => absurd h (by decide))) | (exact absurd hf_ (by omega)) | omega) | (unfold NBP; (try simp only [Ks39]); omega) | (unfold NBQ; (try simp only [Ks39]); omega) | omega | (have zz_ := fz_z (by assumption); omega) | (split <;> omega) | (exact (show ORp _ _ from Or.inl (by omega))) | done))
  · have z43 := fz_z c43
    refine ⟨(by (try simp only [pre_X14_isTwice_t, Ks39]); (all_goals (repeat' (first | with_reducible intro _ | with_reducible apply And.intro | with_reducible refine Exists.intro g39 ?_ | with_reducible refine Im.and ?_ ?_))); all_goals (first | assumption | trivial | ((with_reducible refine Im.i fun hf_ => ?_); first | exact (I39_13 hf_) | exact (G39 hf_) | exact (KA39 hf_) | exact (O39 hf_).cst | exact (L39 hf_) | exact ok1.i | (exact LI.z (fun h => absurd h (by decide))) | (exact absurd hf_ (by omega)) | omega) | (unfold NBP; (try simp only [Ks39]); omega) | (unfold NBQ; (try simp only [Ks39]); omega) | omega | (have zz_ := fz_z (by assumption); omega) | (split <;> omega) | (exact (show ORp _ _ from Or.inl (by omega))) | done)), ?_⟩
    intro v49 hv49 q49
    unfold rng at hv49
    unfold post_X14_isTwice_t at q49
    obtain ⟨q49_1, q49_2, q49_3, q49_4⟩ := q49
    (try simp only [Ks39, NBP, NBQ] at q49_1 q49_2 q49_3 q49_4)
    have S_ : Im (v49 = 0) (rF s39 (rR σ 7) 7 + 3 * rF s39 0 38 + 4 * rF σ 0 29 + 1 ≤ rF σ (rR σ 7) 7 + 3 * rF σ 0 38 + 4 * rF s39 0 29) := fun h_ => by
      rcases I39_12 with q_ | q_
      · exact q_
      · exact absurd (q49_4 (by rw [show rF s39 0 28 = rF σ 0 28 by omega]; exact q_)) (by omega)
    refine ⟨fun c52 => ?_, fun c52 => ?_⟩
    · try have S1_ := S_ (by omega)
      obtain ⟨gu13, Xu14⟩ := EC_56 (P := fz s39 = 0) (rF s39 0 29) G39 O39 (fun hf => by omega)
      have Ou15 : Im (fz s39 = 0) _ := fun hf => (Xu14 hf).2.1
      have Ku16 : Im (fz s39 = 0) (GK g gu13 (rF σ (rR σ 7) 7) (rF s39 (rR σ 7) 7) 0) := fun hf => GK.kc (KA39 hf) (Xu14 hf).2.2 (by omega)
      have Gu17 : Im (fz s39 = 0) _ := fun hf => (Xu14 hf).1
      exact (by (try simp only [post_X14_readBoth, Ks39]); (all_goals (repeat' (first | with_reducible intro _ | with_reducible apply And.intro | with_reducible refine Exists.intro gu13 ?_ | with_reducible refine Im.and ?_ ?_))); all_goals (first | assumption | trivial | ((with_reducible refine Im.i fun hf_ => ?_); first | exact (I39_13 hf_) | exact (Gu17 hf_) | exact (Ku16 hf_) | exact (Ou15 hf_).cst | exact ((Ou15 hf_).so so_15_14).cst | exact ok1.i | (exact LI.z (fun h => absurd h (by decide))) | (exact absurd hf_ (by omega)) | omega) | (unfold NBP; (try simp only [Ks39]); omega) | (unfold NBQ; (try simp only [Ks39]); omega) | omega | (have zz_ := fz_z (by assumption); omega) | (split <;> omega) | (exact (show ORp _ _ from Or.inl (by omega))) | done))
    · intro hr_; unfold rng at hr_
      refine ⟨(by (try simp only [rng, Ks39]); (all_goals (repeat' (first | with_reducible intro _ | with_reducible apply And.intro | with_reducible refine Exists.intro g39 ?_ | with_reducible refine Im.and ?_ ?_))); all_goals (first | assumption | trivial | ((with_reducible refine Im.i fun hf_ => ?_); first | exact (I39_13 hf_) | exact (G39 hf_) | exact (KA39 hf_) | exact (O39 hf_).cst | exact (L39 hf_) | exact ok1.i | (exact LI.z (fun h => absurd h (by decide))) | (exact absurd hf_ (by omega)) | omega) | (unfold NBP; (try simp only [Ks39]); omega) | (unfold NBQ; (try simp only [Ks39]); omega) | omega | (have zz_ := fz_z (by assumption); omega) | (split <;> omega) | (exact (show ORp _ _ from Or.inl (by omega))) | done)), ?_⟩
      refine ⟨g39, ?_⟩
      refine ⟨(by (try simp only [pre_X14_readNot, reduceIte, and_true, true_and, and_false, false_and, and_self, Nat.reduceEqDiff, fz_sF29, rF_sF, rA_sF, rR_sF, tr_sF, rNMp_sF, PNp_sF, GS_F29, OP_F29, NR_F29, LI_F29, RG_l29, RG_r29, TPRp_sF29, WNp_sF29, VMp_sF29, KYp_sF29, PPp_sF29, WFp_sF29, CCp_sF29, rk_n0 hp_2, Ks39]); (all_goals (repeat' (first | with_reducible intro _ | with_reducible apply And.intro | with_reducible refine Exists.intro g39 ?_ | with_reducible refine Im.and ?_ ?_))); all_goals (first | assumption | trivial | ((with_reducible refine Im.i fun hf_ => ?_); first | exact (I39_13 hf_) | exact (G39 hf_) | exact (KA39 hf_) | exact (O39 hf_).cst | exact (L39 hf_) | exact ok1.i | (exact LI.z (fun h => absurd h (by decide))) | (exact absurd hf_ (by omega)) | omega) | (unfold NBP; (try simp only [reduceIte, and_true, true_and, and_false, false_and, and_self, Nat.reduceEqDiff, fz_sF29, rF_sF, rA_sF, rR_sF, tr_sF, rNMp_sF, PNp_sF, GS_F29, OP_F29, NR_F29, LI_F29, RG_l29, RG_r29, TPRp_sF29, WNp_sF29, VMp_sF29, KYp_sF29, PPp_sF29, WFp_sF29, CCp_sF29, rk_n0 hp_2, Ks39]); omega) | (unfold NBQ; (try simp only [reduceIte, and_true, true_and, and_false, false_and, and_self, Nat.reduceEqDiff, fz_sF29, rF_sF, rA_sF, rR_sF, tr_sF, rNMp_sF, PNp_sF, GS_F29, OP_F29, NR_F29, LI_F29, RG_l29, RG_r29, TPRp_sF29, WNp_sF29, VMp_sF29, KYp_sF29, PPp_sF29, WFp_sF29, CCp_sF29, rk_n0 hp_2, Ks39]); omega) | omega | (have zz_ := fz_z (by assumption); omega) | (split <;> omega) | (exact (show ORp _ _ from Or.inl (by omega))) | done)), ?_⟩
      refine ⟨(by (try simp only [rk_X14_readNot, reduceIte, and_true, true_and, and_false, false_and, and_self, Nat.reduceEqDiff, fz_sF29, rF_sF, rA_sF, rR_sF, tr_sF, rNMp_sF, PNp_sF, GS_F29, OP_F29, NR_F29, LI_F29, RG_l29, RG_r29, TPRp_sF29, WNp_sF29, VMp_sF29, KYp_sF29, PPp_sF29, WFp_sF29, CCp_sF29, rk_n0 hp_2, Ks39]); (all_goals (repeat' (first | with_reducible intro _ | with_reducible apply And.intro | with_reducible refine Exists.intro g39 ?_ | with_reducible refine Im.and ?_ ?_))); all_goals (first | assumption | trivial | ((with_reducible refine Im.i fun hf_ => ?_); first | exact (I39_13 hf_) | exact (G39 hf_) | exact (KA39 hf_) | exact (O39 hf_).cst | exact (L39 hf_) | exact ok1.i | (exact LI.z (fun h => absurd h (by decide))) | (exact absurd hf_ (by omega)) | omega) | (unfold NBP; (try simp only [reduceIte, and_true, true_and, and_false, false_and, and_self, Nat.reduceEqDiff, fz_sF29, rF_sF, rA_sF, rR_sF, tr_sF, rNMp_sF, PNp_sF, GS_F29, OP_F29, NR_F29, LI_F29, RG_l29, RG_r29, TPRp_sF29, WNp_sF29, VMp_sF29, KYp_sF29, PPp_sF29, WFp_sF29, CCp_sF29, rk_n0 hp_2, Ks39]); omega) | (unfold NBQ; (try simp only [reduceIte, and_true, true_and, and_false, false_and, and_self, Nat.reduceEqDiff, fz_sF29, rF_sF, rA_sF, rR_sF, tr_sF, rNMp_sF, PNp_sF, GS_F29, OP_F29, NR_F29, LI_F29, RG_l29, RG_r29, TPRp_sF29, WNp_sF29, VMp_sF29, KYp_sF29, PPp_sF29, WFp_sF29, CCp_sF29, rk_n0 hp_2, Ks39]); omega) | omega | (have zz_ := fz_z (by assumption); omega) | (split <;> omega) | (exact (show ORp _ _ from Or.inl (by omega))) | done)), ?_⟩
      intro v66 s66 hv66 Ws66 e66_0 e66_1 e66_2 e66_3 e66_4 e66_5 e66_6 e66_7 e66_8 q66
      unfold rng at hv66
      unfold post_X14_readNot at q66
      obtain ⟨q66_1, q66_2, q66_3, q66_4, q66_5, q66_6, q66_7, q66_8, q66_9⟩ := q66
      (try simp only [reduceIte, and_true, true_and, and_false, false_and, and_self, Nat.reduceEqDiff, fz_sF29, rF_sF, rA_sF, rR_sF, tr_sF, rNMp_sF, PNp_sF, GS_F29, OP_F29, NR_F29, LI_F29, RG_l29, RG_r29, TPRp_sF29, WNp_sF29, VMp_sF29, KYp_sF29, PPp_sF29, WFp_sF29, CCp_sF29, rk_n0 hp_2, Ks39, NBP, NBQ] at q66_1 q66_2 q66_3 q66_4 q66_5 q66_6 q66_7 q66_8 q66_9 e66_0 e66_1 e66_2 e66_3 e66_4 e66_5 e66_6 e66_7 e66_8)
      have Ks66 : rR s66 7 = rR σ 7 := by first | assumption | ((try simp only [rR_sF, rR_sA, rR_sT, rR_sL] at e66_0 e66_1 e66_2 e66_3 e66_4 e66_5 e66_6 e66_7 e66_8); omega)
      have zr66 := fz_rng s66
      have zc66 : fz s66 = 0 → fz s39 = 0 := fun hf => by omega
      have A66 : Im (fz s66 = 0) (RG σ s66 (rR σ 7) 0) := fun hf => RG.trk hp_2 (I39_13 (zc66 hf)) (q66_8 (by omega)) (Or.inr (Or.inl rfl))
      obtain ⟨g66, X66⟩ := q66_9
      have Ou18 : Im (fz s66 = 0) _ := fun hf => OP.gk0 (O39 (zc66 hf)) ((X66 hf).2.1)
      have Lu19 : Im (fz s66 = 0) _ := fun hf => LI.gk0 hp_2 (L39 (zc66 hf)) (O39 (zc66 hf)) (q66_8 (by omega)) ((X66 hf).2.1)
      have Ku20 : Im (fz s66 = 0) (GK g g66 (rF σ (rR σ 7) 7) (rF s66 (rR σ 7) 7) 0) := fun hf => GK.trans (KA39 (zc66 hf)) ((X66 hf).2.1) (Or.inr (Or.inl rfl))
      have Gu21 : Im (fz s66 = 0) (GS s66 (rR σ 7) g66) := fun hf => (X66 hf).1
      have r66 : Im (fz s66 = 0) _ := fun hf => (X66 hf).2.2.1
      have CCp_66 := e66_0 CCp_39; clear e66_0
      intro hr_; unfold rng at hr_
      refine ⟨fun c75 => ?_, fun c75 => ?_⟩
      · have z75 := fz_z c75
        refine ⟨(by (try simp only [Ks66]); (all_goals (repeat' (first | with_reducible intro _ | with_reducible apply And.intro | with_reducible refine Exists.intro g66 ?_ | with_reducible refine Im.and ?_ ?_))); all_goals (first | assumption | trivial | ((with_reducible refine Im.i fun hf_ => ?_); first | exact (A66 hf_) | exact (Gu21 hf_) | exact (Ku20 hf_) | exact (Ou18 hf_).cst | exact (Lu19 hf_) | exact (r66 hf_).cst | exact ((r66 hf_).so so_16_15).cst | exact ((r66 hf_).so so_16_14).cst | exact ok1.i | (exact LI.z (fun h => absurd h (by decide))) | (exact absurd hf_ (by omega)) | omega) | (unfold NBP; (try simp only [Ks66]); omega) | (unfold NBQ; (try simp only [Ks66]); omega) | omega | (have zz_ := fz_z (by assumption); omega) | (split <;> omega) | (exact (show ORp _ _ from Or.inl (by omega))) | done)), ?_⟩
        have A90 : Im (fz s66 = 0) (RG σ (sT s66 (rR σ 7) 5 y39_3 v66) (rR σ 7) 0) := fun hf => RG.tst (f := 5) (i := y39_3) (x := v66) hp_2 (A66 hf) (by decide) (by omega)
        obtain ⟨gs90, Xs90⟩ := EA_1_56 (P := fz s66 = 0) hp_2 Gu21 Ou18 Lu19 r66 (fun _ h => h) (fun hf => by omega)
        have Ku22 : Im (fz s66 = 0) (GK g gs90 (rF σ (rR σ 7) 7) (rF s66 (rR σ 7) 7) 0) := fun hf => GK.ks (Ku20 hf) (Xs90 hf).2.2.2.1 (by omega) (by omega)
        have Gu23 : Im (fz s66 = 0) _ := fun hf => (Xs90 hf).1
        have Ou24 : Im (fz s66 = 0) _ := fun hf => (Xs90 hf).2.1
        have Lu25 : Im (fz s66 = 0) _ := fun hf => (Xs90 hf).2.2.1
        refine ⟨(by (try simp only [pre_X14_blanks, reduceIte, and_true, true_and, and_false, false_and, and_self, Nat.reduceEqDiff, fz_sA, rF_sA, rA_sA, rR_sA, rF_sT, rR_sT, sT_sF, fz_sT, rA_sT26 hp_2, rA_sT27 hp_2, rA_sT34 hp_2, rA_sT35 hp_2, rA_sT36 hp_2, rA_sT37 hp_2, rA_sT40 hp_2, TPRp_sT hp_2, WNp_sT hp_2, VMp_sT hp_2, KYp_sT hp_2, PPp_sT hp_2, WFp_sT hp_2, CCp_sT hp_2, rNMp_sT5, PNp_sT5, rk_n0 hp_2, Ks66]); (all_goals (repeat' (first | with_reducible intro _ | with_reducible apply And.intro | with_reducible refine Exists.intro gs90 ?_ | with_reducible refine Im.and ?_ ?_))); all_goals (first | assumption | trivial | ((with_reducible refine Im.i fun hf_ => ?_); first | exact (A90 hf_) | exact (Gu23 hf_) | exact (Ku22 hf_) | exact (Ou24 hf_).cst | exact (Lu25 hf_) | exact ok1.i | (exact LI.z (fun h => absurd h (by decide))) | (exact absurd hf_ (by omega)) | omega) | (unfold NBP; (try simp only [reduceIte, and_true, true_and, and_false, false_and, and_self, Nat.reduceEqDiff, fz_sA, rF_sA, rA_sA, rR_sA, rF_sT, rR_sT, sT_sF, fz_sT, rA_sT26 hp_2, rA_sT27 hp_2, rA_sT34 hp_2, rA_sT35 hp_2, rA_sT36 hp_2, rA_sT37 hp_2, rA_sT40 hp_2, TPRp_sT hp_2, WNp_sT hp_2, VMp_sT hp_2, KYp_sT hp_2, PPp_sT hp_2, WFp_sT hp_2, CCp_sT hp_2, rNMp_sT5, PNp_sT5, rk_n0 hp_2, Ks66]); omega) | (unfold NBQ; (try simp only [reduceIte, and_true, true_and, and_false, false_and, and_self, Nat.reduceEqDiff, fz_sA, rF_sA, rA_sA, rR_sA, rF_sT, rR_sT, sT_sF, fz_sT, rA_sT26 hp_2, rA_sT27 hp_2, rA_sT34 hp_2, rA_sT35 hp_2, rA_sT36 hp_2, rA_sT37 hp_2, rA_sT40 hp_2, TPRp_sT hp_2, WNp_sT hp_2, VMp_sT hp_2, KYp_sT hp_2, PPp_sT hp_2, WFp_sT hp_2, CCp_sT hp_2, rNMp_sT5, PNp_sT5, rk_n0 hp_2, Ks66]); omega) | omega | (have zz_ := fz_z (by assumption); omega) | (split <;> omega) | (exact (show ORp _ _ from Or.inl (by omega))) | done)), ?_⟩
        intro s95 Ws95 e95_0 e95_1 e95_2 e95_3 e95_4 e95_5 e95_6 e95_7 e95_8 e95_9 e95_10 e95_11 e95_12 e95_13 e95_14 e95_15 e95_16 e95_17 e95_18 e95_19 e95_20 R95 q95
        have q95 := dig_blanks q95 (by (try simp only [reduceIte, and_true, true_and, and_false, false_and, and_self, Nat.reduceEqDiff, fz_sA, rF_sA, rA_sA, rR_sA, rF_sT, rR_sT, sT_sF, fz_sT, rA_sT26 hp_2, rA_sT27 hp_2, rA_sT34 hp_2, rA_sT35 hp_2, rA_sT36 hp_2, rA_sT37 hp_2, rA_sT40 hp_2, TPRp_sT hp_2, WNp_sT hp_2, VMp_sT hp_2, KYp_sT hp_2, PPp_sT hp_2, WFp_sT hp_2, CCp_sT hp_2, rNMp_sT5, PNp_sT5, rk_n0 hp_2, Ks66]); omega)
        obtain ⟨q95_1, q95_2⟩ := q95
        (try simp only [reduceIte, and_true, true_and, and_false, false_and, and_self, Nat.reduceEqDiff, fz_sA, rF_sA, rA_sA, rR_sA, rF_sT, rR_sT, sT_sF, fz_sT, rA_sT26 hp_2, rA_sT27 hp_2, rA_sT34 hp_2, rA_sT35 hp_2, rA_sT36 hp_2, rA_sT37 hp_2, rA_sT40 hp_2, TPRp_sT hp_2, WNp_sT hp_2, VMp_sT hp_2, KYp_sT hp_2, PPp_sT hp_2, WFp_sT hp_2, CCp_sT hp_2, rNMp_sT5, PNp_sT5, rk_n0 hp_2, Ks66, NBP, NBQ] at q95_1 q95_2 e95_0 e95_1 e95_2 e95_3 e95_4 e95_5 e95_6 e95_7 e95_8 e95_9 e95_10 e95_11 e95_12 e95_13 e95_14 e95_15 e95_16 e95_17 e95_18 e95_19 e95_20 R95)
        have Ks95 : rR s95 7 = rR σ 7 := by first | assumption | ((try simp only [rR_sF, rR_sA, rR_sT, rR_sL] at e95_0 e95_1 e95_2 e95_3 e95_4 e95_5 e95_6 e95_7 e95_8 e95_9 e95_10 e95_11 e95_12 e95_13 e95_14 e95_15 e95_16 e95_17 e95_18 e95_19 e95_20 R95); omega)
        have zr95 := fz_rng s95
        have zc95 : fz s95 = 0 → fz s66 = 0 := fun hf => by omega
        have A95 : Im (fz s95 = 0) (RG σ s95 (rR σ 7) 0) := fun hf => RG.trk hp_2 (A90 (zc95 hf)) R95 (Or.inr (Or.inl rfl))
        have Ou26 : Im (fz s95 = 0) _ := fun hf => OP.gk0 (Ou24 (zc95 hf)) (GK.up (g := gs90) (N := rF (sT s66 (rR σ 7) 5 y39_3 v66) (rR σ 7) 7) (N' := rF s95 (rR σ 7) 7) (c := 0) (by first | assumption | omega | (simp only [rF_sT, rF_sA]; omega)))
        have Lu27 : Im (fz s95 = 0) _ := fun hf => LI.gk0 hp_2 (Lu25 (zc95 hf)) (Ou24 (zc95 hf)) R95 (GK.up (g := gs90) (N := rF (sT s66 (rR σ 7) 5 y39_3 v66) (rR σ 7) 7) (N' := rF s95 (rR σ 7) 7) (c := 0) (by first | assumption | omega | (simp only [rF_sT, rF_sA]; omega)))
        have Ku28 : Im (fz s95 = 0) (GK g gs90 (rF σ (rR σ 7) 7) (rF s95 (rR σ 7) 7) 0) := fun hf => GK.trans (Ku22 (zc95 hf)) (GK.up (N := rF (sT s66 (rR σ 7) 5 y39_3 v66) (rR σ 7) 7) (N' := rF s95 (rR σ 7) 7) (c := 0) (by first | assumption | omega | (simp only [rF_sT, rF_sA]; omega))) (Or.inr (Or.inl rfl))
        have Gu29 : Im (fz s95 = 0) (GS s95 (rR σ 7) gs90) := fun hf => GS.mv hp_2 (Gu23 (zc95 hf)) R95 (by first | assumption | omega | (simp only [rF_sT, rF_sA]; omega)) (by first | (exact Int.le_of_eq (Eq.symm (by assumption))) | omega | (simp only [rF_sT, rF_sA]; omega))
        have rNMp_95 := e95_0 q66_2; clear e95_0
        have WNp_95 := e95_1 q66_3; clear e95_1
        have PNp_95 := e95_2 q66_4; clear e95_2
        have CCp_95 := e95_3 CCp_66; clear e95_3
        exact (by (try simp only [inv_X14_readBoth_39, mu_X14_readBoth_39, mu_X14_readBoth_39, Ks95]); (all_goals (repeat' (first | with_reducible intro _ | with_reducible apply And.intro | with_reducible refine Exists.intro gs90 ?_ | with_reducible refine Im.and ?_ ?_))); all_goals (first | assumption | trivial | ((with_reducible refine Im.i fun hf_ => ?_); first | exact (A95 hf_) | exact (Gu29 hf_) | exact (Ku28 hf_) | exact (Ou26 hf_).cst | exact (Lu27 hf_) | exact ok1.i | (exact LI.z (fun h => absurd h (by decide))) | (exact absurd hf_ (by omega)) | omega) | (unfold NBP; (try simp only [Ks95]); omega) | (unfold NBQ; (try simp only [Ks95]); omega) | omega | (have zz_ := fz_z (by assumption); omega) | (split <;> omega) | (exact (show ORp _ _ from Or.inl (by omega))) | done))
      · have z75 := fz_n c75
        exact (by (try simp only [post_X14_readBoth, Ks66]); (all_goals (repeat' (first | with_reducible intro _ | with_reducible apply And.intro | with_reducible refine Exists.intro g66 ?_ | with_reducible refine Im.and ?_ ?_))); all_goals (first | assumption | trivial | ((with_reducible refine Im.i fun hf_ => ?_); first | exact (A66 hf_) | exact (Gu21 hf_) | exact (Ku20 hf_) | exact (Ou18 hf_).cst | exact (Lu19 hf_) | exact (r66 hf_).cst | exact ((r66 hf_).so so_16_15).cst | exact ((r66 hf_).so so_16_14).cst | exact ok1.i | (exact LI.z (fun h => absurd h (by decide))) | (exact absurd hf_ (by omega)) | omega) | (unfold NBP; (try simp only [Ks66]); omega) | (unfold NBQ; (try simp only [Ks66]); omega) | omega | (have zz_ := fz_z (by assumption); omega) | (split <;> omega) | (exact (show ORp _ _ from Or.inl (by omega))) | done))
set_option maxHeartbeats 20000000 in
theorem vX14_readBoth_39m (n : Nat) (σ : rS) (gg : Nat) (g : Nat → Int → Int) (hwf : rWF σ) (hp : pre_X14_readBoth σ gg g) (hr : rk_X14_readBoth σ gg g ≤ n + 1) : VC_X14_readBoth_39m n σ gg g := by
  unfold pre_X14_readBoth at hp
  obtain ⟨hp_1, hp_2, hp_3, hp_4, hp_5, hp_6, hp_7, hp_8⟩ := hp
  subst hp_1
  unfold rk_X14_readBoth at hr
  have hN := hp_4
  unfold NBP at hN
  have hC := hp_3
  unfold CCp at hC
  obtain ⟨hC1, hC⟩ := hC
  have zr0 := fz_rng σ
  have hr2 : fz σ = 0 → 16 * (21 - rF σ 0 31).toNat + 10 ≤ n + 1 := fun h => by rw [if_pos h] at hr; exact hr
  have hr3 : 10 ≤ n + 1 := by have := hr; split at this <;> omega
  clear hr
  unfold VC_X14_readBoth_39m
  (try simp only [inv_X14_readBoth_39, mu_X14_readBoth_39]); (all_goals (repeat' (first | with_reducible intro _ | with_reducible apply And.intro))); all_goals (first | assumption | omega | grind (splits := 20))
set_option maxHeartbeats 20000000 in
theorem vX14_readCond (n : Nat) (σ : rS) (gg : Nat) (g : Nat → Int → Int) (hwf : rWF σ) (hp : pre_X14_readCond σ gg g) (hr : rk_X14_readCond σ gg g ≤ n + 1) : VC_X14_readCond n σ gg g (post_X14_readCond σ gg g) := by
  unfold pre_X14_readCond at hp
  obtain ⟨hp_1, hp_2, hp_3, hp_4, hp_5, hp_6, hp_7, hp_8⟩ := hp
  subst hp_1
  unfold rk_X14_readCond at hr
  have hN := hp_4
  unfold NBP at hN
  have hC := hp_3
  unfold CCp at hC
  obtain ⟨hC1, hC⟩ := hC
  have zr0 := fz_rng σ
  have hr2 : fz σ = 0 → 16 * (21 - rF σ 0 31).toNat + 11 ≤ n + 1 := fun h => by rw [if_pos h] at hr; exact hr
  have hr3 : 11 ≤ n + 1 := by have := hr; split at this <;> omega
  clear hr
  unfold VC_X14_readCond
  refine ⟨(by (all_goals (repeat' (first | with_reducible intro _ | with_reducible apply And.intro))); all_goals (first | assumption | trivial | (unfold NBP; omega) | (unfold NBQ; omega) | omega | (have zz_ := fz_z (by assumption); omega) | (split <;> omega) | (exact (show ORp _ _ from Or.inl (by omega))) | done)), ?_⟩
  refine ⟨g, ?_⟩
  refine ⟨(by (try simp only [pre_X14_readBoth]); (all_goals (repeat' (first | with_reducible intro _ | with_reducible apply And.intro | with_reducible refine Exists.intro g ?_ | with_reducible refine Im.and ?_ ?_))); all_goals (first | assumption | trivial | ((with_reducible refine Im.i fun hf_ => ?_); first | exact ((fun _ => RG.rf) hf_) | exact (hp_8 hf_) | exact ((fun _ => GK.rf) hf_) | exact ok1.i | (exact LI.z (fun h => absurd h (by decide))) | (exact absurd hf_ (by omega)) | omega) | (unfold NBP; omega) | (unfold NBQ; omega) | omega | (have zz_ := fz_z (by assumption); omega) | (split <;> omega) | (exact (show ORp _ _ from Or.inl (by omega))) | done)), ?_⟩
  refine ⟨(by (try simp only [rk_X14_readBoth]); (all_goals (repeat' (first | with_reducible intro _ | with_reducible apply And.intro | with_reducible refine Exists.intro g ?_ | with_reducible refine Im.and ?_ ?_))); all_goals (first | assumption | trivial | ((with_reducible refine Im.i fun hf_ => ?_); first | exact ((fun _ => RG.rf) hf_) | exact (hp_8 hf_) | exact ((fun _ => GK.rf) hf_) | exact ok1.i | (exact LI.z (fun h => absurd h (by decide))) | (exact absurd hf_ (by omega)) | omega) | (unfold NBP; omega) | (unfold NBQ; omega) | omega | (have zz_ := fz_z (by assumption); omega) | (split <;> omega) | (exact (show ORp _ _ from Or.inl (by omega))) | done)), ?_⟩
  intro v1 s1 hv1 Ws1 e1_0 e1_1 e1_2 e1_3 e1_4 e1_5 e1_6 e1_7 e1_8 q1
  unfold rng at hv1
  unfold post_X14_readBoth at q1
  obtain ⟨q1_1, q1_2, q1_3, q1_4, q1_5, q1_6, q1_7, q1_8, q1_9⟩ := q1
  (try simp only [NBP, NBQ] at q1_1 q1_2 q1_3 q1_4 q1_5 q1_6 q1_7 q1_8 q1_9 e1_0 e1_1 e1_2 e1_3 e1_4 e1_5 e1_6 e1_7 e1_8)
  have Ks1 : rR s1 7 = rR σ 7 := by first | assumption | ((try simp only [rR_sF, rR_sA, rR_sT, rR_sL] at e1_0 e1_1 e1_2 e1_3 e1_4 e1_5 e1_6 e1_7 e1_8); omega)
  have zr1 := fz_rng s1
  have zc1 : fz s1 = 0 → fz σ = 0 := fun hf => by omega
  have A1 : Im (fz s1 = 0) (RG σ s1 (rR σ 7) 0) := fun hf => RG.trk hp_2 ((fun _ => RG.rf) (zc1 hf)) (q1_8 (by omega)) (Or.inr (Or.inl rfl))
  obtain ⟨g1, X1⟩ := q1_9
  have Ku1 : Im (fz s1 = 0) (GK g g1 (rF σ (rR σ 7) 7) (rF s1 (rR σ 7) 7) 0) := fun hf => GK.trans ((fun _ => GK.rf) (zc1 hf)) ((X1 hf).2.1) (Or.inr (Or.inl rfl))
  have Gu2 : Im (fz s1 = 0) (GS s1 (rR σ 7) g1) := fun hf => (X1 hf).1
  have r1 : Im (fz s1 = 0) _ := fun hf => (X1 hf).2.2.1
  have CCp_1 := e1_0 hp_3; clear e1_0
  refine ⟨(by (try simp only [pre_X14_blanks, Ks1]); (all_goals (repeat' (first | with_reducible intro _ | with_reducible apply And.intro | with_reducible refine Exists.intro g1 ?_ | with_reducible refine Im.and ?_ ?_))); all_goals (first | assumption | trivial | ((with_reducible refine Im.i fun hf_ => ?_); first | exact (A1 hf_) | exact (Gu2 hf_) | exact (Ku1 hf_) | exact (r1 hf_).cst | exact ((r1 hf_).so so_15_14).cst | exact ok1.i | (exact LI.z (fun h => absurd h (by decide))) | (exact absurd hf_ (by omega)) | omega) | (unfold NBP; (try simp only [Ks1]); omega) | (unfold NBQ; (try simp only [Ks1]); omega) | omega | (have zz_ := fz_z (by assumption); omega) | (split <;> omega) | (exact (show ORp _ _ from Or.inl (by omega))) | done)), ?_⟩
  intro s6 Ws6 e6_0 e6_1 e6_2 e6_3 e6_4 e6_5 e6_6 e6_7 e6_8 e6_9 e6_10 e6_11 e6_12 e6_13 e6_14 e6_15 e6_16 e6_17 e6_18 e6_19 e6_20 R6 q6
  have q6 := dig_blanks q6 (by (try simp only [Ks1]); omega)
  obtain ⟨q6_1, q6_2⟩ := q6
  (try simp only [Ks1, NBP, NBQ] at q6_1 q6_2 e6_0 e6_1 e6_2 e6_3 e6_4 e6_5 e6_6 e6_7 e6_8 e6_9 e6_10 e6_11 e6_12 e6_13 e6_14 e6_15 e6_16 e6_17 e6_18 e6_19 e6_20 R6)
  have Ks6 : rR s6 7 = rR σ 7 := by first | assumption | ((try simp only [rR_sF, rR_sA, rR_sT, rR_sL] at e6_0 e6_1 e6_2 e6_3 e6_4 e6_5 e6_6 e6_7 e6_8 e6_9 e6_10 e6_11 e6_12 e6_13 e6_14 e6_15 e6_16 e6_17 e6_18 e6_19 e6_20 R6); omega)
  have zr6 := fz_rng s6
  have zc6 : fz s6 = 0 → fz s1 = 0 := fun hf => by omega
  have A6 : Im (fz s6 = 0) (RG σ s6 (rR σ 7) 0) := fun hf => RG.trk hp_2 (A1 (zc6 hf)) R6 (Or.inr (Or.inl rfl))
  have r1u3 : Im (fz s6 = 0) _ := fun hf => NR.gk (r1 (zc6 hf)) (GK.up (g := g1) (N := rF s1 (rR σ 7) 7) (N' := rF s6 (rR σ 7) 7) (c := 0) (by first | assumption | omega | (simp only [rF_sT, rF_sA]; omega)))
  have Ku4 : Im (fz s6 = 0) (GK g g1 (rF σ (rR σ 7) 7) (rF s6 (rR σ 7) 7) 0) := fun hf => GK.trans (Ku1 (zc6 hf)) (GK.up (N := rF s1 (rR σ 7) 7) (N' := rF s6 (rR σ 7) 7) (c := 0) (by first | assumption | omega | (simp only [rF_sT, rF_sA]; omega))) (Or.inr (Or.inl rfl))
  have Gu5 : Im (fz s6 = 0) (GS s6 (rR σ 7) g1) := fun hf => GS.mv hp_2 (Gu2 (zc6 hf)) R6 (by first | assumption | omega | (simp only [rF_sT, rF_sA]; omega)) (by first | (exact Int.le_of_eq (Eq.symm (by assumption))) | omega | (simp only [rF_sT, rF_sA]; omega))
  have rNMp_6 := e6_0 q1_2; clear e6_0
  have WNp_6 := e6_1 q1_3; clear e6_1
  have PNp_6 := e6_2 q1_4; clear e6_2
  have CCp_6 := e6_3 CCp_1; clear e6_3
  intro hr_; unfold rng at hr_
  refine ⟨fun c13 => ?_, fun c13 => ?_⟩
  · have z13 := fz_n c13
    exact (by (try simp only [post_X14_readCond, Ks6]); (all_goals (repeat' (first | with_reducible intro _ | with_reducible apply And.intro | with_reducible refine Exists.intro g1 ?_ | with_reducible refine Im.and ?_ ?_))); all_goals (first | assumption | trivial | ((with_reducible refine Im.i fun hf_ => ?_); first | exact (A6 hf_) | exact (Gu5 hf_) | exact (Ku4 hf_) | exact (r1u3 hf_).cst | exact ((r1u3 hf_).so so_15_14).cst | exact ok1.i | (exact LI.z (fun h => absurd h (by decide))) | (exact absurd hf_ (by omega)) | omega) | (unfold NBP; (try simp only [Ks6]); omega) | (unfold NBQ; (try simp only [Ks6]); omega) | omega | (have zz_ := fz_z (by assumption); omega) | (split <;> omega) | (exact (show ORp _ _ from Or.inl (by omega))) | done))
  · have z13 := fz_z c13
    refine ⟨(by (try simp only [pre_X14_isTwice_t, Ks6]); (all_goals (repeat' (first | with_reducible intro _ | with_reducible apply And.intro | with_reducible refine Exists.intro g1 ?_ | with_reducible refine Im.and ?_ ?_))); all_goals (first | assumption | trivial | ((with_reducible refine Im.i fun hf_ => ?_); first | exact (A6 hf_) | exact (Gu5 hf_) | exact (Ku4 hf_) | exact (r1u3 hf_).cst | exact ((r1u3 hf_).so so_15_14).cst | exact ok1.i | (exact LI.z (fun h => absurd h (by decide))) | (exact absurd hf_ (by omega)) | omega) | (unfold NBP; (try simp only [Ks6]); omega) | (unfold NBQ; (try simp only [Ks6]); omega) | omega | (have zz_ := fz_z (by assumption); omega) | (split <;> omega) | (exact (show ORp _ _ from Or.inl (by omega))) | done)), ?_⟩
    intro v19 hv19 q19
    unfold rng at hv19
    unfold post_X14_isTwice_t at q19
    obtain ⟨q19_1, q19_2, q19_3, q19_4⟩ := q19
    (try simp only [Ks6, NBP, NBQ] at q19_1 q19_2 q19_3 q19_4)
    refine ⟨fun c22 => ?_, fun c22 => ?_⟩
    · refine ⟨(by (try simp only [pre_X14_node_t, Ks6]); (all_goals (repeat' (first | with_reducible intro _ | with_reducible apply And.intro | with_reducible refine Exists.intro g1 ?_ | with_reducible refine Im.and ?_ ?_))); all_goals (first | assumption | trivial | ((with_reducible refine Im.i fun hf_ => ?_); first | exact (A6 hf_) | exact (Gu5 hf_) | exact (Ku4 hf_) | exact (r1u3 hf_).cst | exact ((r1u3 hf_).so so_15_14).cst | exact ok1.i | (exact LI.z (fun h => absurd h (by decide))) | (exact absurd hf_ (by omega)) | omega) | (unfold NBP; (try simp only [Ks6]); omega) | (unfold NBQ; (try simp only [Ks6]); omega) | omega | (have zz_ := fz_z (by assumption); omega) | (split <;> omega) | (exact (show ORp _ _ from Or.inl (by omega))) | done)), ?_⟩
      intro v33 s33 hv33 Ws33 e33_0 e33_1 e33_2 e33_3 e33_4 e33_5 e33_6 e33_7 e33_8 e33_9 e33_10 e33_11 e33_12 e33_13 e33_14 e33_15 e33_16 e33_17 e33_18 e33_19 e33_20 q33
      unfold rng at hv33
      unfold post_X14_node_t at q33
      obtain ⟨q33_1, q33_2, q33_3, q33_4, q33_5, q33_6, q33_7, q33_8, q33_9⟩ := q33
      (try simp only [Ks6, NBP, NBQ] at q33_1 q33_2 q33_3 q33_4 q33_5 q33_6 q33_7 q33_8 q33_9 e33_0 e33_1 e33_2 e33_3 e33_4 e33_5 e33_6 e33_7 e33_8 e33_9 e33_10 e33_11 e33_12 e33_13 e33_14 e33_15 e33_16 e33_17 e33_18 e33_19 e33_20)
      have Ks33 : rR s33 7 = rR σ 7 := by first | assumption | ((try simp only [rR_sF, rR_sA, rR_sT, rR_sL] at e33_0 e33_1 e33_2 e33_3 e33_4 e33_5 e33_6 e33_7 e33_8 e33_9 e33_10 e33_11 e33_12 e33_13 e33_14 e33_15 e33_16 e33_17 e33_18 e33_19 e33_20); omega)
      have zr33 := fz_rng s33
      have zc33 : fz s33 = 0 → fz s6 = 0 := fun hf => by omega
      have A33 : Im (fz s33 = 0) (RG σ s33 (rR σ 7) 0) := fun hf => RG.trk hp_2 (A6 (zc33 hf)) q33_3 (Or.inr (Or.inl rfl))
      obtain ⟨g33, X33⟩ := EV_55 (P := fz s33 = 0) (rF σ 0 29) (rF s1 0 31) hp_2 (fun hf => Gu5 (zc33 hf)) (fun hf => r1u3 (zc33 hf)) (fun _ h => h) (fun hf => q33_3) q33_1 q33_2 q33_4 q33_5 q33_6 q33_9 (fun hf => by (try simp only [rF_sT, rF_sA]); (repeat' (with_reducible apply And.intro)) <;> first | trivial | omega)
      have Ku6 : Im (fz s33 = 0) (GK g g33 (rF σ (rR σ 7) 7) (rF s33 (rR σ 7) 7) 0) := fun hf => GK.kv (Ku4 (zc33 hf)) (X33 hf).2.1 (by omega)
      have Gu7 : Im (fz s33 = 0) _ := fun hf => (X33 hf).1
      have O33 : Im (fz s33 = 0) _ := fun hf => (X33 hf).2.2.1
      have L33_1 : Im (fz s33 = 0) _ := fun hf => (X33 hf).2.2.2.1
      have rNMp_33 := e33_0 rNMp_6; clear e33_0
      have WNp_33 := e33_1 WNp_6; clear e33_1
      have PNp_33 := e33_2 PNp_6; clear e33_2
      have CCp_33 := e33_3 CCp_6; clear e33_3
      have TW_ : ORp (rF s33 (rR σ 7) 7 + 3 * rF s33 0 38 + 4 * rF σ 0 29 + 1 ≤ rF σ (rR σ 7) 7 + 3 * rF σ 0 38 + 4 * rF s33 0 29) (TWp (rA s33 1026) (rF σ 0 28) (rF s33 0 29) 124) := Or.inr (by rw [show rA s33 1026 = rA s6 1026 from funext (by assumption), show rF s33 0 29 = rF s6 0 29 by omega, show rF σ 0 28 = rF s6 0 28 by omega]; exact q19_3 (by omega))
      exact (by (try simp only [inv_X14_readCond_39, Ks33]); (all_goals (repeat' (first | with_reducible intro _ | with_reducible apply And.intro | with_reducible refine Exists.intro g33 ?_ | with_reducible refine Im.and ?_ ?_))); all_goals (first | assumption | trivial | ((with_reducible refine Im.i fun hf_ => ?_); first | exact (A33 hf_) | exact (Gu7 hf_) | exact (Ku6 hf_) | exact (O33 hf_).cst | exact (L33_1 hf_) | exact ok1.i | (exact LI.z (fun h => absurd h (by decide))) | (exact absurd hf_ (by omega)) | omega) | (unfold NBP; (try simp only [Ks33]); omega) | (unfold NBQ; (try simp only [Ks33]); omega) | omega | (have zz_ := fz_z (by assumption); omega) | (split <;> omega) | (exact (show ORp _ _ from Or.inl (by omega))) | done))
    · exact (by (try simp only [post_X14_readCond, Ks6]); (all_goals (repeat' (first | with_reducible intro _ | with_reducible apply And.intro | with_reducible refine Exists.intro g1 ?_ | with_reducible refine Im.and ?_ ?_))); all_goals (first | assumption | trivial | ((with_reducible refine Im.i fun hf_ => ?_); first | exact (A6 hf_) | exact (Gu5 hf_) | exact (Ku4 hf_) | exact (r1u3 hf_).cst | exact ((r1u3 hf_).so so_15_14).cst | exact ok1.i | (exact LI.z (fun h => absurd h (by decide))) | (exact absurd hf_ (by omega)) | omega) | (unfold NBP; (try simp only [Ks6]); omega) | (unfold NBQ; (try simp only [Ks6]); omega) | omega | (have zz_ := fz_z (by assumption); omega) | (split <;> omega) | (exact (show ORp _ _ from Or.inl (by omega))) | done))
set_option maxHeartbeats 20000000 in
theorem vX14_readCond_39 (n : Nat) (σ : rS) (gg : Nat) (g : Nat → Int → Int) (hwf : rWF σ) (hp : pre_X14_readCond σ gg g) (hr : rk_X14_readCond σ gg g ≤ n + 1) : VC_X14_readCond_39 n σ gg g (post_X14_readCond σ gg g) := by
  unfold pre_X14_readCond at hp
  obtain ⟨hp_1, hp_2, hp_3, hp_4, hp_5, hp_6, hp_7, hp_8⟩ := hp
  subst hp_1
  unfold rk_X14_readCond at hr
  have hN := hp_4
  unfold NBP at hN
  have hC := hp_3
  unfold CCp at hC
  obtain ⟨hC1, hC⟩ := hC
  have zr0 := fz_rng σ
  have hr2 : fz σ = 0 → 16 * (21 - rF σ 0 31).toNat + 11 ≤ n + 1 := fun h => by rw [if_pos h] at hr; exact hr
  have hr3 : 11 ≤ n + 1 := by have := hr; split at this <;> omega
  clear hr
  unfold VC_X14_readCond_39
  intro s39 y39_2 y39_3 Ws39 hy39_2 hy39_3 e39_0 e39_1 e39_2 e39_3 e39_4 e39_5 e39_6 e39_7 e39_8 I39
  have Ks39 : rR s39 7 = rR σ 7 := by omega
  unfold inv_X14_readCond_39 at I39
  obtain ⟨I39_1, I39_2, I39_3, I39_4, I39_5, I39_6, I39_7, I39_8, I39_9, I39_10, I39_11, I39_12, I39_13, I39_14⟩ := I39
  (try simp only [Ks39, NBP, NBQ] at I39_1 I39_2 I39_3 I39_4 I39_5 I39_6 I39_7 I39_8 I39_9 I39_10 I39_11 I39_12 I39_13 I39_14)
  have zr39 := fz_rng s39
  have CCp_39 := e39_0 hp_3; clear e39_0
  obtain ⟨g39, X39⟩ := I39_14
  have G39 : Im (fz s39 = 0) _ := fun hf => (X39 hf).1
  have KA39 : Im (fz s39 = 0) _ := fun hf => (X39 hf).2.1
  have O39 : Im (fz s39 = 0) _ := fun hf => (X39 hf).2.2.1
  have L39 : Im (fz s39 = 0) _ := fun hf => (X39 hf).2.2.2.1
  intro hr_; unfold rng at hr_
  refine ⟨fun c43 => ?_, fun c43 => ?_⟩
  · have z43 := fz_n c43
    try have S1_ := S_ (by omega)
    obtain ⟨gu8, Xu9⟩ := EC_55 (P := fz s39 = 0) (rF s39 0 29) G39 O39 (fun hf => by omega)
    have Ou10 : Im (fz s39 = 0) _ := fun hf => (Xu9 hf).2.1
    have Ku11 : Im (fz s39 = 0) (GK g gu8 (rF σ (rR σ 7) 7) (rF s39 (rR σ 7) 7) 0) := fun hf => GK.kc (KA39 hf) (Xu9 hf).2.2 (by omega)
    have Gu12 : Im (fz s39 = 0) _ := fun hf => (Xu9 hf).1
    exact (by (try simp only [post_X14_readCond, Ks39]); (all_goals (repeat' (first | with_reducible intro _ | with_reducible apply And.intro | with_reducible refine Exists.intro gu8 ?_ | with_reducible refine Im.and ?_ ?_))); all_goals (first | assumption | trivial | ((with_reducible refine Im.i fun hf_ => ?_); first | exact (I39_13 hf_) | exact (Gu12 hf_) | exact (Ku11 hf_) | exact (Ou10 hf_).cst | exact ok1.i | (exact LI.z (fun h => absurd h (by decide))) | (exact absurd hf_ (by omega)) | omega) | (unfold NBP; (try simp only [Ks39]); omega) | (unfold NBQ; (try simp only [Ks39]); omega) | omega | (have zz_ := fz_z (by assumption); omega) | (split <;> omega) | (exact (show ORp _ _ from Or.inl (by omega))) | done))
  · have z43 := fz_z c43
    refine ⟨(by (try simp only [pre_X14_isTwice_t, Ks39]); (all_goals (repeat' (first | with_reducible intro _ | with_reducible apply And.intro | with_reducible refine Exists.intro g39 ?_ | with_reducible refine Im.and ?_ ?_))); all_goals (first | assumption | trivial | ((with_reducible refine Im.i fun hf_ => ?_); first | exact (I39_13 hf_) | exact (G39 hf_) | exact (KA39 hf_) | exact (O39 hf_).cst | exact (L39 hf_) | exact ok1.i | (exact LI.z (fun h => absurd h (by decide))) | (exact absurd hf_ (by omega)) | omega) | (unfold NBP; (try simp only [Ks39]); omega) | (unfold NBQ; (try simp only [Ks39]); omega) | omega | (have zz_ := fz_z (by assumption); omega) | (split <;> omega) | (exact (show ORp _ _ from Or.inl (by omega))) | done)), ?_⟩
    intro v49 hv49 q49
    unfold rng at hv49
    unfold post_X14_isTwice_t at q49
    obtain ⟨q49_1, q49_2, q49_3, q49_4⟩ := q49
    (try simp only [Ks39, NBP, NBQ] at q49_1 q49_2 q49_3 q49_4)
    have S_ : Im (v49 = 0) (rF s39 (rR σ 7) 7 + 3 * rF s39 0 38 + 4 * rF σ 0 29 + 1 ≤ rF σ (rR σ 7) 7 + 3 * rF σ 0 38 + 4 * rF s39 0 29) := fun h_ => by
      rcases I39_12 with q_ | q_
      · exact q_
      · exact absurd (q49_4 (by rw [show rF s39 0 28 = rF σ 0 28 by omega]; exact q_)) (by omega)
    refine ⟨fun c52 => ?_, fun c52 => ?_⟩
    · try have S1_ := S_ (by omega)
      obtain ⟨gu13, Xu14⟩ := EC_55 (P := fz s39 = 0) (rF s39 0 29) G39 O39 (fun hf => by omega)
      have Ou15 : Im (fz s39 = 0) _ := fun hf => (Xu14 hf).2.1
      have Ku16 : Im (fz s39 = 0) (GK g gu13 (rF σ (rR σ 7) 7) (rF s39 (rR σ 7) 7) 0) := fun hf => GK.kc (KA39 hf) (Xu14 hf).2.2 (by omega)
      have Gu17 : Im (fz s39 = 0) _ := fun hf => (Xu14 hf).1
      exact (by (try simp only [post_X14_readCond, Ks39]); (all_goals (repeat' (first | with_reducible intro _ | with_reducible apply And.intro | with_reducible refine Exists.intro gu13 ?_ | with_reducible refine Im.and ?_ ?_))); all_goals (first | assumption | trivial | ((with_reducible refine Im.i fun hf_ => ?_); first | exact (I39_13 hf_) | exact (Gu17 hf_) | exact (Ku16 hf_) | exact (Ou15 hf_).cst | exact ok1.i | (exact LI.z (fun h => absurd h (by decide))) | (exact absurd hf_ (by omega)) | omega) | (unfold NBP; (try simp only [Ks39]); omega) | (unfold NBQ; (try simp only [Ks39]); omega) | omega | (have zz_ := fz_z (by assumption); omega) | (split <;> omega) | (exact (show ORp _ _ from Or.inl (by omega))) | done))
    · intro hr_; unfold rng at hr_
      refine ⟨(by (try simp only [rng, Ks39]); (all_goals (repeat' (first | with_reducible intro _ | with_reducible apply And.intro | with_reducible refine Exists.intro g39 ?_ | with_reducible refine Im.and ?_ ?_))); all_goals (first | assumption | trivial | ((with_reducible refine Im.i fun hf_ => ?_); first | exact (I39_13 hf_) | exact (G39 hf_) | exact (KA39 hf_) | exact (O39 hf_).cst | exact (L39 hf_) | exact ok1.i | (exact LI.z (fun h => absurd h (by decide))) | (exact absurd hf_ (by omega)) | omega) | (unfold NBP; (try simp only [Ks39]); omega) | (unfold NBQ; (try simp only [Ks39]); omega) | omega | (have zz_ := fz_z (by assumption); omega) | (split <;> omega) | (exact (show ORp _ _ from Or.inl (by omega))) | done)), ?_⟩
      refine ⟨g39, ?_⟩
      refine ⟨(by (try simp only [pre_X14_readBoth, reduceIte, and_true, true_and, and_false, false_and, and_self, Nat.reduceEqDiff, fz_sF29, rF_sF, rA_sF, rR_sF, tr_sF, rNMp_sF, PNp_sF, GS_F29, OP_F29, NR_F29, LI_F29, RG_l29, RG_r29, TPRp_sF29, WNp_sF29, VMp_sF29, KYp_sF29, PPp_sF29, WFp_sF29, CCp_sF29, rk_n0 hp_2, Ks39]); (all_goals (repeat' (first | with_reducible intro _ | with_reducible apply And.intro | with_reducible refine Exists.intro g39 ?_ | with_reducible refine Im.and ?_ ?_))); all_goals (first | assumption | trivial | ((with_reducible refine Im.i fun hf_ => ?_); first | exact (I39_13 hf_) | exact (G39 hf_) | exact (KA39 hf_) | exact (O39 hf_).cst | exact (L39 hf_) | exact ok1.i | (exact LI.z (fun h => absurd h (by decide))) | (exact absurd hf_ (by omega)) | omega) | (unfold NBP; (try simp only [reduceIte, and_true, true_and, and_false, false_and, and_self, Nat.reduceEqDiff, fz_sF29, rF_sF, rA_sF, rR_sF, tr_sF, rNMp_sF, PNp_sF, GS_F29, OP_F29, NR_F29, LI_F29, RG_l29, RG_r29, TPRp_sF29, WNp_sF29, VMp_sF29, KYp_sF29, PPp_sF29, WFp_sF29, CCp_sF29, rk_n0 hp_2, Ks39]); omega) | (unfold NBQ; (try simp only [reduceIte, and_true, true_and, and_false, false_and, and_self, Nat.reduceEqDiff, fz_sF29, rF_sF, rA_sF, rR_sF, tr_sF, rNMp_sF, PNp_sF, GS_F29, OP_F29, NR_F29, LI_F29, RG_l29, RG_r29, TPRp_sF29, WNp_sF29, VMp_sF29, KYp_sF29, PPp_sF29, WFp_sF29, CCp_sF29, rk_n0 hp_2, Ks39]); omega) | omega | (have zz_ := fz_z (by assumption); omega) | (split <;> omega) | (exact (show ORp _ _ from Or.inl (by omega))) | done)), ?_⟩
      refine ⟨(by (try simp only [rk_X14_readBoth, reduceIte, and_true, true_and, and_false, false_and, and_self, Nat.reduceEqDiff, fz_sF29, rF_sF, rA_sF, rR_sF, tr_sF, rNMp_sF, PNp_sF, GS_F29, OP_F29, NR_F29, LI_F29, RG_l29, RG_r29, TPRp_sF29, WNp_sF29, VMp_sF29, KYp_sF29, PPp_sF29, WFp_sF29, CCp_sF29, rk_n0 hp_2, Ks39]); (all_goals (repeat' (first | with_reducible intro _ | with_reducible apply And.intro | with_reducible refine Exists.intro g39 ?_ | with_reducible refine Im.and ?_ ?_))); all_goals (first | assumption | trivial | ((with_reducible refine Im.i fun hf_ => ?_); first | exact (I39_13 hf_) | exact (G39 hf_) | exact (KA39 hf_) | exact (O39 hf_).cst | exact (L39 hf_) | exact ok1.i | (exact LI.z (fun h => absurd h (by decide))) | (exact absurd hf_ (by omega)) | omega) | (unfold NBP; (try simp only [reduceIte, and_true, true_and, and_false, false_and, and_self, Nat.reduceEqDiff, fz_sF29, rF_sF, rA_sF, rR_sF, tr_sF, rNMp_sF, PNp_sF, GS_F29, OP_F29, NR_F29, LI_F29, RG_l29, RG_r29, TPRp_sF29, WNp_sF29, VMp_sF29, KYp_sF29, PPp_sF29, WFp_sF29, CCp_sF29, rk_n0 hp_2, Ks39]); omega) | (unfold NBQ; (try simp only [reduceIte, and_true, true_and, and_false, false_and, and_self, Nat.reduceEqDiff, fz_sF29, rF_sF, rA_sF, rR_sF, tr_sF, rNMp_sF, PNp_sF, GS_F29, OP_F29, NR_F29, LI_F29, RG_l29, RG_r29, TPRp_sF29, WNp_sF29, VMp_sF29, KYp_sF29, PPp_sF29, WFp_sF29, CCp_sF29, rk_n0 hp_2, Ks39]); omega) | omega | (have zz_ := fz_z (by assumption); omega) | (split <;> omega) | (exact (show ORp _ _ from Or.inl (by omega))) | done)), ?_⟩
      intro v66 s66 hv66 Ws66 e66_0 e66_1 e66_2 e66_3 e66_4 e66_5 e66_6 e66_7 e66_8 q66
      unfold rng at hv66
      unfold post_X14_readBoth at q66
      obtain ⟨q66_1, q66_2, q66_3, q66_4, q66_5, q66_6, q66_7, q66_8, q66_9⟩ := q66
      (try simp only [reduceIte, and_true, true_and, and_false, false_and, and_self, Nat.reduceEqDiff, fz_sF29, rF_sF, rA_sF, rR_sF, tr_sF, rNMp_sF, PNp_sF, GS_F29, OP_F29, NR_F29, LI_F29, RG_l29, RG_r29, TPRp_sF29, WNp_sF29, VMp_sF29, KYp_sF29, PPp_sF29, WFp_sF29, CCp_sF29, rk_n0 hp_2, Ks39, NBP, NBQ] at q66_1 q66_2 q66_3 q66_4 q66_5 q66_6 q66_7 q66_8 q66_9 e66_0 e66_1 e66_2 e66_3 e66_4 e66_5 e66_6 e66_7 e66_8)
      have Ks66 : rR s66 7 = rR σ 7 := by first | assumption | ((try simp only [rR_sF, rR_sA, rR_sT, rR_sL] at e66_0 e66_1 e66_2 e66_3 e66_4 e66_5 e66_6 e66_7 e66_8); omega)
      have zr66 := fz_rng s66
      have zc66 : fz s66 = 0 → fz s39 = 0 := fun hf => by omega
      have A66 : Im (fz s66 = 0) (RG σ s66 (rR σ 7) 0) := fun hf => RG.trk hp_2 (I39_13 (zc66 hf)) (q66_8 (by omega)) (Or.inr (Or.inl rfl))
      obtain ⟨g66, X66⟩ := q66_9
      have Ou18 : Im (fz s66 = 0) _ := fun hf => OP.gk0 (O39 (zc66 hf)) ((X66 hf).2.1)
      have Lu19 : Im (fz s66 = 0) _ := fun hf => LI.gk0 hp_2 (L39 (zc66 hf)) (O39 (zc66 hf)) (q66_8 (by omega)) ((X66 hf).2.1)
      have Ku20 : Im (fz s66 = 0) (GK g g66 (rF σ (rR σ 7) 7) (rF s66 (rR σ 7) 7) 0) := fun hf => GK.trans (KA39 (zc66 hf)) ((X66 hf).2.1) (Or.inr (Or.inl rfl))
      have Gu21 : Im (fz s66 = 0) (GS s66 (rR σ 7) g66) := fun hf => (X66 hf).1
      have r66 : Im (fz s66 = 0) _ := fun hf => (X66 hf).2.2.1
      have CCp_66 := e66_0 CCp_39; clear e66_0
      intro hr_; unfold rng at hr_
      refine ⟨fun c75 => ?_, fun c75 => ?_⟩
      · have z75 := fz_z c75
        refine ⟨(by (try simp only [Ks66]); (all_goals (repeat' (first | with_reducible intro _ | with_reducible apply And.intro | with_reducible refine Exists.intro g66 ?_ | with_reducible refine Im.and ?_ ?_))); all_goals (first | assumption | trivial | ((with_reducible refine Im.i fun hf_ => ?_); first | exact (A66 hf_) | exact (Gu21 hf_) | exact (Ku20 hf_) | exact (Ou18 hf_).cst | exact (Lu19 hf_) | exact (r66 hf_).cst | exact ((r66 hf_).so so_15_14).cst | exact ok1.i | (exact LI.z (fun h => absurd h (by decide))) | (exact absurd hf_ (by omega)) | omega) | (unfold NBP; (try simp only [Ks66]); omega) | (unfold NBQ; (try simp only [Ks66]); omega) | omega | (have zz_ := fz_z (by assumption); omega) | (split <;> omega) | (exact (show ORp _ _ from Or.inl (by omega))) | done)), ?_⟩
        have A90 : Im (fz s66 = 0) (RG σ (sT s66 (rR σ 7) 5 y39_3 v66) (rR σ 7) 0) := fun hf => RG.tst (f := 5) (i := y39_3) (x := v66) hp_2 (A66 hf) (by decide) (by omega)
        obtain ⟨gs90, Xs90⟩ := EA_1_55 (P := fz s66 = 0) hp_2 Gu21 Ou18 Lu19 r66 (fun _ h => h) (fun hf => by omega)
        have Ku22 : Im (fz s66 = 0) (GK g gs90 (rF σ (rR σ 7) 7) (rF s66 (rR σ 7) 7) 0) := fun hf => GK.ks (Ku20 hf) (Xs90 hf).2.2.2.1 (by omega) (by omega)
        have Gu23 : Im (fz s66 = 0) _ := fun hf => (Xs90 hf).1
        have Ou24 : Im (fz s66 = 0) _ := fun hf => (Xs90 hf).2.1
        have Lu25 : Im (fz s66 = 0) _ := fun hf => (Xs90 hf).2.2.1
        refine ⟨(by (try simp only [pre_X14_blanks, reduceIte, and_true, true_and, and_false, false_and, and_self, Nat.reduceEqDiff, fz_sA, rF_sA, rA_sA, rR_sA, rF_sT, rR_sT, sT_sF, fz_sT, rA_sT26 hp_2, rA_sT27 hp_2, rA_sT34 hp_2, rA_sT35 hp_2, rA_sT36 hp_2, rA_sT37 hp_2, rA_sT40 hp_2, TPRp_sT hp_2, WNp_sT hp_2, VMp_sT hp_2, KYp_sT hp_2, PPp_sT hp_2, WFp_sT hp_2, CCp_sT hp_2, rNMp_sT5, PNp_sT5, rk_n0 hp_2, Ks66]); (all_goals (repeat' (first | with_reducible intro _ | with_reducible apply And.intro | with_reducible refine Exists.intro gs90 ?_ | with_reducible refine Im.and ?_ ?_))); all_goals (first | assumption | trivial | ((with_reducible refine Im.i fun hf_ => ?_); first | exact (A90 hf_) | exact (Gu23 hf_) | exact (Ku22 hf_) | exact (Ou24 hf_).cst | exact (Lu25 hf_) | exact ok1.i | (exact LI.z (fun h => absurd h (by decide))) | (exact absurd hf_ (by omega)) | omega) | (unfold NBP; (try simp only [reduceIte, and_true, true_and, and_false, false_and, and_self, Nat.reduceEqDiff, fz_sA, rF_sA, rA_sA, rR_sA, rF_sT, rR_sT, sT_sF, fz_sT, rA_sT26 hp_2, rA_sT27 hp_2, rA_sT34 hp_2, rA_sT35 hp_2, rA_sT36 hp_2, rA_sT37 hp_2, rA_sT40 hp_2, TPRp_sT hp_2, WNp_sT hp_2, VMp_sT hp_2, KYp_sT hp_2, PPp_sT hp_2, WFp_sT hp_2, CCp_sT hp_2, rNMp_sT5, PNp_sT5, rk_n0 hp_2, Ks66]); omega) | (unfold NBQ; (try simp only [reduceIte, and_true, true_and, and_false, false_and, and_self, Nat.reduceEqDiff, fz_sA, rF_sA, rA_sA, rR_sA, rF_sT, rR_sT, sT_sF, fz_sT, rA_sT26 hp_2, rA_sT27 hp_2, rA_sT34 hp_2, rA_sT35 hp_2, rA_sT36 hp_2, rA_sT37 hp_2, rA_sT40 hp_2, TPRp_sT hp_2, WNp_sT hp_2, VMp_sT hp_2, KYp_sT hp_2, PPp_sT hp_2, WFp_sT hp_2, CCp_sT hp_2, rNMp_sT5, PNp_sT5, rk_n0 hp_2, Ks66]); omega) | omega | (have zz_ := fz_z (by assumption); omega) | (split <;> omega) | (exact (show ORp _ _ from Or.inl (by omega))) | done)), ?_⟩
        intro s95 Ws95 e95_0 e95_1 e95_2 e95_3 e95_4 e95_5 e95_6 e95_7 e95_8 e95_9 e95_10 e95_11 e95_12 e95_13 e95_14 e95_15 e95_16 e95_17 e95_18 e95_19 e95_20 R95 q95
        have q95 := dig_blanks q95 (by (try simp only [reduceIte, and_true, true_and, and_false, false_and, and_self, Nat.reduceEqDiff, fz_sA, rF_sA, rA_sA, rR_sA, rF_sT, rR_sT, sT_sF, fz_sT, rA_sT26 hp_2, rA_sT27 hp_2, rA_sT34 hp_2, rA_sT35 hp_2, rA_sT36 hp_2, rA_sT37 hp_2, rA_sT40 hp_2, TPRp_sT hp_2, WNp_sT hp_2, VMp_sT hp_2, KYp_sT hp_2, PPp_sT hp_2, WFp_sT hp_2, CCp_sT hp_2, rNMp_sT5, PNp_sT5, rk_n0 hp_2, Ks66]); omega)
        obtain ⟨q95_1, q95_2⟩ := q95
        (try simp only [reduceIte, and_true, true_and, and_false, false_and, and_self, Nat.reduceEqDiff, fz_sA, rF_sA, rA_sA, rR_sA, rF_sT, rR_sT, sT_sF, fz_sT, rA_sT26 hp_2, rA_sT27 hp_2, rA_sT34 hp_2, rA_sT35 hp_2, rA_sT36 hp_2, rA_sT37 hp_2, rA_sT40 hp_2, TPRp_sT hp_2, WNp_sT hp_2, VMp_sT hp_2, KYp_sT hp_2, PPp_sT hp_2, WFp_sT hp_2, CCp_sT hp_2, rNMp_sT5, PNp_sT5, rk_n0 hp_2, Ks66, NBP, NBQ] at q95_1 q95_2 e95_0 e95_1 e95_2 e95_3 e95_4 e95_5 e95_6 e95_7 e95_8 e95_9 e95_10 e95_11 e95_12 e95_13 e95_14 e95_15 e95_16 e95_17 e95_18 e95_19 e95_20 R95)
        have Ks95 : rR s95 7 = rR σ 7 := by first | assumption | ((try simp only [rR_sF, rR_sA, rR_sT, rR_sL] at e95_0 e95_1 e95_2 e95_3 e95_4 e95_5 e95_6 e95_7 e95_8 e95_9 e95_10 e95_11 e95_12 e95_13 e95_14 e95_15 e95_16 e95_17 e95_18 e95_19 e95_20 R95); omega)
        have zr95 := fz_rng s95
        have zc95 : fz s95 = 0 → fz s66 = 0 := fun hf => by omega
        have A95 : Im (fz s95 = 0) (RG σ s95 (rR σ 7) 0) := fun hf => RG.trk hp_2 (A90 (zc95 hf)) R95 (Or.inr (Or.inl rfl))
        have Ou26 : Im (fz s95 = 0) _ := fun hf => OP.gk0 (Ou24 (zc95 hf)) (GK.up (g := gs90) (N := rF (sT s66 (rR σ 7) 5 y39_3 v66) (rR σ 7) 7) (N' := rF s95 (rR σ 7) 7) (c := 0) (by first | assumption | omega | (simp only [rF_sT, rF_sA]; omega)))
        have Lu27 : Im (fz s95 = 0) _ := fun hf => LI.gk0 hp_2 (Lu25 (zc95 hf)) (Ou24 (zc95 hf)) R95 (GK.up (g := gs90) (N := rF (sT s66 (rR σ 7) 5 y39_3 v66) (rR σ 7) 7) (N' := rF s95 (rR σ 7) 7) (c := 0) (by first | assumption | omega | (simp only [rF_sT, rF_sA]; omega)))
        have Ku28 : Im (fz s95 = 0) (GK g gs90 (rF σ (rR σ 7) 7) (rF s95 (rR σ 7) 7) 0) := fun hf => GK.trans (Ku22 (zc95 hf)) (GK.up (N := rF (sT s66 (rR σ 7) 5 y39_3 v66) (rR σ 7) 7) (N' := rF s95 (rR σ 7) 7) (c := 0) (by first | assumption | omega | (simp only [rF_sT, rF_sA]; omega))) (Or.inr (Or.inl rfl))
        have Gu29 : Im (fz s95 = 0) (GS s95 (rR σ 7) gs90) := fun hf => GS.mv hp_2 (Gu23 (zc95 hf)) R95 (by first | assumption | omega | (simp only [rF_sT, rF_sA]; omega)) (by first | (exact Int.le_of_eq (Eq.symm (by assumption))) | omega | (simp only [rF_sT, rF_sA]; omega))
        have rNMp_95 := e95_0 q66_2; clear e95_0
        have WNp_95 := e95_1 q66_3; clear e95_1
        have PNp_95 := e95_2 q66_4; clear e95_2
        have CCp_95 := e95_3 CCp_66; clear e95_3
        exact (by (try simp only [inv_X14_readCond_39, mu_X14_readCond_39, mu_X14_readCond_39, Ks95]); (all_goals (repeat' (first | with_reducible intro _ | with_reducible apply And.intro | with_reducible refine Exists.intro gs90 ?_ | with_reducible refine Im.and ?_ ?_))); all_goals (first | assumption | trivial | ((with_reducible refine Im.i fun hf_ => ?_); first | exact (A95 hf_) | exact (Gu29 hf_) | exact (Ku28 hf_) | exact (Ou26 hf_).cst | exact (Lu27 hf_) | exact ok1.i | (exact LI.z (fun h => absurd h (by decide))) | (exact absurd hf_ (by omega)) | omega) | (unfold NBP; (try simp only [Ks95]); omega) | (unfold NBQ; (try simp only [Ks95]); omega) | omega | (have zz_ := fz_z (by assumption); omega) | (split <;> omega) | (exact (show ORp _ _ from Or.inl (by omega))) | done))
      · have z75 := fz_n c75
        exact (by (try simp only [post_X14_readCond, Ks66]); (all_goals (repeat' (first | with_reducible intro _ | with_reducible apply And.intro | with_reducible refine Exists.intro g66 ?_ | with_reducible refine Im.and ?_ ?_))); all_goals (first | assumption | trivial | ((with_reducible refine Im.i fun hf_ => ?_); first | exact (A66 hf_) | exact (Gu21 hf_) | exact (Ku20 hf_) | exact (Ou18 hf_).cst | exact (Lu19 hf_) | exact (r66 hf_).cst | exact ((r66 hf_).so so_15_14).cst | exact ok1.i | (exact LI.z (fun h => absurd h (by decide))) | (exact absurd hf_ (by omega)) | omega) | (unfold NBP; (try simp only [Ks66]); omega) | (unfold NBQ; (try simp only [Ks66]); omega) | omega | (have zz_ := fz_z (by assumption); omega) | (split <;> omega) | (exact (show ORp _ _ from Or.inl (by omega))) | done))
set_option maxHeartbeats 20000000 in
theorem vX14_readCond_39m (n : Nat) (σ : rS) (gg : Nat) (g : Nat → Int → Int) (hwf : rWF σ) (hp : pre_X14_readCond σ gg g) (hr : rk_X14_readCond σ gg g ≤ n + 1) : VC_X14_readCond_39m n σ gg g := by
  unfold pre_X14_readCond at hp
  obtain ⟨hp_1, hp_2, hp_3, hp_4, hp_5, hp_6, hp_7, hp_8⟩ := hp
  subst hp_1
  unfold rk_X14_readCond at hr
  have hN := hp_4
  unfold NBP at hN
  have hC := hp_3
  unfold CCp at hC
  obtain ⟨hC1, hC⟩ := hC
  have zr0 := fz_rng σ
  have hr2 : fz σ = 0 → 16 * (21 - rF σ 0 31).toNat + 11 ≤ n + 1 := fun h => by rw [if_pos h] at hr; exact hr
  have hr3 : 11 ≤ n + 1 := by have := hr; split at this <;> omega
  clear hr
  unfold VC_X14_readCond_39m
  (try simp only [inv_X14_readCond_39, mu_X14_readCond_39]); (all_goals (repeat' (first | with_reducible intro _ | with_reducible apply And.intro))); all_goals (first | assumption | omega | grind (splits := 20))
set_option maxHeartbeats 20000000 in
theorem vX14_readOptions (n : Nat) (σ : rS) (x1 : Int) (gg : Nat) (g : Nat → Int → Int) (hwf : rWF σ) (hx1 : rng x1) (hp : pre_X14_readOptions σ x1 gg g) (hr : rk_X14_readOptions σ x1 gg g ≤ n + 1) : VC_X14_readOptions n σ x1 gg g (post_X14_readOptions σ x1 gg g) := by
  unfold pre_X14_readOptions at hp
  obtain ⟨hp_1, hp_2, hp_3, hp_4, hp_5, hp_6, hp_7, hp_8, hp_9, hp_10, hp_11, hp_12⟩ := hp
  unfold rng at hx1
  subst hp_1
  unfold rk_X14_readOptions at hr
  have hN := hp_4
  unfold NBP at hN
  have hC := hp_3
  unfold CCp at hC
  obtain ⟨hC1, hC⟩ := hC
  have zr0 := fz_rng σ
  have hr2 : fz σ = 0 → 16 * (21 - rF σ 0 31).toNat + 7 ≤ n + 1 := fun h => by rw [if_pos h] at hr; exact hr
  have hr3 : 7 ≤ n + 1 := by have := hr; split at this <;> omega
  clear hr
  unfold VC_X14_readOptions
  refine ⟨(by (all_goals (repeat' (first | with_reducible intro _ | with_reducible apply And.intro))); all_goals (first | assumption | trivial | (unfold NBP; omega) | (unfold NBQ; omega) | omega | (have zz_ := fz_z (by assumption); omega) | (split <;> omega) | (exact fun hf_ => L_ (by omega)) | ((repeat' split) <;> omega) | done)), ?_⟩
  refine ⟨(by (try simp only [pre_X14_blanks]); (all_goals (repeat' (first | with_reducible intro _ | with_reducible apply And.intro | with_reducible refine Exists.intro g ?_ | with_reducible refine Im.and ?_ ?_))); all_goals (first | assumption | trivial | ((with_reducible refine Im.i fun hf_ => ?_); first | exact ((fun _ => RG.rf) hf_) | exact (hp_8 hf_) | exact ((fun _ => GK.rf) hf_) | exact (hp_11 hf_).cst | exact (hp_12 hf_) | exact ok1.i | (exact LI.z (fun h => absurd h (by decide))) | (exact absurd hf_ (by omega)) | omega) | (unfold NBP; omega) | (unfold NBQ; omega) | omega | (have zz_ := fz_z (by assumption); omega) | (split <;> omega) | (exact fun hf_ => L_ (by omega)) | ((repeat' split) <;> omega) | done)), ?_⟩
  intro s1 Ws1 e1_0 e1_1 e1_2 e1_3 e1_4 e1_5 e1_6 e1_7 e1_8 e1_9 e1_10 e1_11 e1_12 e1_13 e1_14 e1_15 e1_16 e1_17 e1_18 e1_19 e1_20 e1_21 e1_22 R1 q1
  have q1 := dig_blanks q1 (by omega)
  obtain ⟨q1_1, q1_2⟩ := q1
  (try simp only [NBP, NBQ] at q1_1 q1_2 e1_0 e1_1 e1_2 e1_3 e1_4 e1_5 e1_6 e1_7 e1_8 e1_9 e1_10 e1_11 e1_12 e1_13 e1_14 e1_15 e1_16 e1_17 e1_18 e1_19 e1_20 e1_21 e1_22 R1)
  have Ks1 : rR s1 7 = rR σ 7 := by first | assumption | ((try simp only [rR_sF, rR_sA, rR_sT, rR_sL] at e1_0 e1_1 e1_2 e1_3 e1_4 e1_5 e1_6 e1_7 e1_8 e1_9 e1_10 e1_11 e1_12 e1_13 e1_14 e1_15 e1_16 e1_17 e1_18 e1_19 e1_20 e1_21 e1_22 R1); omega)
  have zr1 := fz_rng s1
  have zc1 : fz s1 = 0 → fz σ = 0 := fun hf => by omega
  have A1 : Im (fz s1 = 0) (RG σ s1 (rR σ 7) x1) := fun hf => RG.trk hp_2 ((fun _ => RG.rf) (zc1 hf)) R1 (Or.inr (Or.inl rfl))
  have Ou1 : Im (fz s1 = 0) _ := fun hf => OP.gk0 (hp_11 (zc1 hf)) (GK.up (g := g) (N := rF σ (rR σ 7) 7) (N' := rF s1 (rR σ 7) 7) (c := 0) (by first | assumption | omega | (simp only [rF_sT, rF_sA]; omega)))
  have Lu2 : Im (fz s1 = 0) _ := fun hf => LI.gk0 hp_2 (hp_12 (zc1 hf)) (hp_11 (zc1 hf)) R1 (GK.up (g := g) (N := rF σ (rR σ 7) 7) (N' := rF s1 (rR σ 7) 7) (c := 0) (by first | assumption | omega | (simp only [rF_sT, rF_sA]; omega)))
  have Ku3 : Im (fz s1 = 0) (GK g g (rF σ (rR σ 7) 7) (rF s1 (rR σ 7) 7) x1) := fun hf => GK.trans ((fun _ => GK.rf) (zc1 hf)) (GK.up (N := rF σ (rR σ 7) 7) (N' := rF s1 (rR σ 7) 7) (c := 0) (by first | assumption | omega | (simp only [rF_sT, rF_sA]; omega))) (Or.inr (Or.inl rfl))
  have Gu4 : Im (fz s1 = 0) (GS s1 (rR σ 7) g) := fun hf => GS.mv hp_2 (hp_8 (zc1 hf)) R1 (by first | assumption | omega | (simp only [rF_sT, rF_sA]; omega)) (by first | (exact Int.le_of_eq (Eq.symm (by assumption))) | omega | (simp only [rF_sT, rF_sA]; omega))
  have rNMp_1 := e1_0 hp_5; clear e1_0
  have TPRp_1 := e1_1 hC1; clear e1_1
  have WNp_1 := e1_2 hp_6; clear e1_2
  have PNp_1 := e1_3 hp_7; clear e1_3
  have CCp_1 := e1_4 hp_3; clear e1_4
  refine ⟨(by (try simp only [pre_X14_here, Ks1]); (all_goals (repeat' (first | with_reducible intro _ | with_reducible apply And.intro | with_reducible refine Exists.intro g ?_ | with_reducible refine Im.and ?_ ?_))); all_goals (first | assumption | trivial | ((with_reducible refine Im.i fun hf_ => ?_); first | exact (A1 hf_) | exact (Gu4 hf_) | exact (Ku3 hf_) | exact (Ou1 hf_).cst | exact (Lu2 hf_) | exact ok1.i | (exact LI.z (fun h => absurd h (by decide))) | (exact absurd hf_ (by omega)) | omega) | (unfold NBP; (try simp only [Ks1]); omega) | (unfold NBQ; (try simp only [Ks1]); omega) | omega | (have zz_ := fz_z (by assumption); omega) | (split <;> omega) | (exact fun hf_ => L_ (by omega)) | ((repeat' split) <;> omega) | done)), ?_⟩
  intro v5 hv5 q5
  unfold rng at hv5
  unfold post_X14_here at q5
  obtain ⟨q5_1, q5_2⟩ := q5
  (try simp only [Ks1, NBP, NBQ] at q5_1 q5_2)
  refine ⟨fun c10 => ?_, fun c10 => ?_⟩
  · exact (by (try simp only [post_X14_readOptions, Ks1]); (all_goals (repeat' (first | with_reducible intro _ | with_reducible apply And.intro | with_reducible refine Exists.intro g ?_ | with_reducible refine Im.and ?_ ?_))); all_goals (first | assumption | trivial | ((with_reducible refine Im.i fun hf_ => ?_); first | exact (A1 hf_) | exact (Gu4 hf_) | exact (Ku3 hf_) | exact (Ou1 hf_).cst | exact (Lu2 hf_) | exact ok1.i | (exact LI.z (fun h => absurd h (by decide))) | (exact absurd hf_ (by omega)) | omega) | (unfold NBP; (try simp only [Ks1]); omega) | (unfold NBQ; (try simp only [Ks1]); omega) | omega | (have zz_ := fz_z (by assumption); omega) | (split <;> omega) | (exact fun hf_ => L_ (by omega)) | ((repeat' split) <;> omega) | done))
  · intro hr_; unfold rng at hr_
    refine ⟨fun c17 => ?_, fun c17 => ?_⟩
    · have z17 := fz_z c17
      exact (by (try simp only [inv_X14_readOptions_25, Ks1]); (all_goals (repeat' (first | with_reducible intro _ | with_reducible apply And.intro | with_reducible refine Exists.intro g ?_ | with_reducible refine Im.and ?_ ?_))); all_goals (first | assumption | trivial | ((with_reducible refine Im.i fun hf_ => ?_); first | exact (A1 hf_) | exact (Gu4 hf_) | exact (Ku3 hf_) | exact (Ou1 hf_).cst | exact (Lu2 hf_) | exact ok1.i | (exact LI.z (fun h => absurd h (by decide))) | (exact absurd hf_ (by omega)) | omega) | (unfold NBP; (try simp only [Ks1]); omega) | (unfold NBQ; (try simp only [Ks1]); omega) | omega | (have zz_ := fz_z (by assumption); omega) | (split <;> omega) | (exact fun hf_ => L_ (by omega)) | ((repeat' split) <;> omega) | done))
    · have z17 := fz_n c17
      exact (by (try simp only [post_X14_readOptions, Ks1]); (all_goals (repeat' (first | with_reducible intro _ | with_reducible apply And.intro | with_reducible refine Exists.intro g ?_ | with_reducible refine Im.and ?_ ?_))); all_goals (first | assumption | trivial | ((with_reducible refine Im.i fun hf_ => ?_); first | exact (A1 hf_) | exact (Gu4 hf_) | exact (Ku3 hf_) | exact (Ou1 hf_).cst | exact (Lu2 hf_) | exact ok1.i | (exact LI.z (fun h => absurd h (by decide))) | (exact absurd hf_ (by omega)) | omega) | (unfold NBP; (try simp only [Ks1]); omega) | (unfold NBQ; (try simp only [Ks1]); omega) | omega | (have zz_ := fz_z (by assumption); omega) | (split <;> omega) | (exact fun hf_ => L_ (by omega)) | ((repeat' split) <;> omega) | done))
set_option maxHeartbeats 20000000 in
theorem vX14_readOptions_148 (n : Nat) (σ : rS) (x1 : Int) (gg : Nat) (g : Nat → Int → Int) (hwf : rWF σ) (hx1 : rng x1) (hp : pre_X14_readOptions σ x1 gg g) (hr : rk_X14_readOptions σ x1 gg g ≤ n + 1) : VC_X14_readOptions_148 n σ x1 gg g (post_X14_readOptions σ x1 gg g) := by
  unfold pre_X14_readOptions at hp
  obtain ⟨hp_1, hp_2, hp_3, hp_4, hp_5, hp_6, hp_7, hp_8, hp_9, hp_10, hp_11, hp_12⟩ := hp
  unfold rng at hx1
  subst hp_1
  unfold rk_X14_readOptions at hr
  have hN := hp_4
  unfold NBP at hN
  have hC := hp_3
  unfold CCp at hC
  obtain ⟨hC1, hC⟩ := hC
  have zr0 := fz_rng σ
  have hr2 : fz σ = 0 → 16 * (21 - rF σ 0 31).toNat + 7 ≤ n + 1 := fun h => by rw [if_pos h] at hr; exact hr
  have hr3 : 7 ≤ n + 1 := by have := hr; split at this <;> omega
  clear hr
  unfold VC_X14_readOptions_148
  intro m25 s148 y148_2 y148_4 y148_5 Ws148 hy148_2 hy148_4 hy148_5 e148_0 e148_1 e148_2 e148_3 e148_4 e148_5 e148_6 e148_7 e148_8 e148_9 I148
  have Ks148 : rR s148 7 = rR σ 7 := by omega
  unfold inv_X14_readOptions_148 at I148
  obtain ⟨I148_1, I148_2, I148_3, I148_4, I148_5, I148_6, I148_7, I148_8, I148_9, I148_10, I148_11, I148_12, I148_13, I148_14⟩ := I148
  (try simp only [Ks148, NBP, NBQ] at I148_1 I148_2 I148_3 I148_4 I148_5 I148_6 I148_7 I148_8 I148_9 I148_10 I148_11 I148_12 I148_13 I148_14)
  have zr148 := fz_rng s148
  have TPRp_148 := e148_0 hC1; clear e148_0
  have CCp_148 := e148_1 hp_3; clear e148_1
  obtain ⟨g148, X148⟩ := I148_14
  have G148 : Im (fz s148 = 0) _ := fun hf => (X148 hf).1
  have KA148 : Im (fz s148 = 0) _ := fun hf => (X148 hf).2.1
  have O148 : Im (fz s148 = 0) _ := fun hf => (X148 hf).2.2.1
  have L148 : Im (fz s148 = 0) _ := fun hf => (X148 hf).2.2.2.1
  have RW148 : Im (fz s148 = 0) _ := fun hf => (X148 hf).2.2.2.2.1
  refine ⟨fun c150 => ?_, fun c150 => ?_⟩
  · intro hr_; unfold rng at hr_
    refine ⟨fun c203 => ?_, fun c203 => ?_⟩
    · have z203 := fz_z c203
      refine ⟨(by (try simp only [pre_X14_place, Ks148]); (all_goals (repeat' (first | with_reducible intro _ | with_reducible apply And.intro | with_reducible refine Exists.intro g148 ?_ | with_reducible refine Im.and ?_ ?_))); all_goals (first | assumption | trivial | ((with_reducible refine Im.i fun hf_ => ?_); first | exact (I148_13 hf_) | exact (G148 hf_) | exact (KA148 hf_) | exact (O148 hf_).cst | exact (L148 hf_) | exact ok1.i | (exact LI.z (fun h => absurd h (by decide))) | (exact absurd hf_ (by omega)) | omega) | (unfold NBP; (try simp only [Ks148]); omega) | (unfold NBQ; (try simp only [Ks148]); omega) | omega | (have zz_ := fz_z (by assumption); omega) | (split <;> omega) | (exact fun hf_ => L_ (by omega)) | ((repeat' split) <;> omega) | done)), ?_⟩
      intro v214 hv214 q214
      unfold rng at hv214
      unfold post_X14_place at q214
      obtain ⟨q214_1, q214_2⟩ := q214
      (try simp only [Ks148, NBP, NBQ] at q214_1 q214_2)
      refine ⟨(by (try simp only [pre_X14_node_t, Ks148]); (all_goals (repeat' (first | with_reducible intro _ | with_reducible apply And.intro | with_reducible refine Exists.intro g148 ?_ | with_reducible refine Im.and ?_ ?_))); all_goals (first | assumption | trivial | ((with_reducible refine Im.i fun hf_ => ?_); first | exact (I148_13 hf_) | exact (G148 hf_) | exact (KA148 hf_) | exact (O148 hf_).cst | exact (L148 hf_) | exact ok1.i | (exact LI.z (fun h => absurd h (by decide))) | (exact absurd hf_ (by omega)) | omega) | (unfold NBP; (try simp only [Ks148]); omega) | (unfold NBQ; (try simp only [Ks148]); omega) | omega | (have zz_ := fz_z (by assumption); omega) | (split <;> omega) | (exact fun hf_ => L_ (by omega)) | ((repeat' split) <;> omega) | done)), ?_⟩
      intro v217 s217 hv217 Ws217 e217_0 e217_1 e217_2 e217_3 e217_4 e217_5 e217_6 e217_7 e217_8 e217_9 e217_10 e217_11 e217_12 e217_13 e217_14 e217_15 e217_16 e217_17 e217_18 e217_19 e217_20 e217_21 e217_22 q217
      unfold rng at hv217
      unfold post_X14_node_t at q217
      obtain ⟨q217_1, q217_2, q217_3, q217_4, q217_5, q217_6, q217_7, q217_8, q217_9⟩ := q217
      (try simp only [Ks148, NBP, NBQ] at q217_1 q217_2 q217_3 q217_4 q217_5 q217_6 q217_7 q217_8 q217_9 e217_0 e217_1 e217_2 e217_3 e217_4 e217_5 e217_6 e217_7 e217_8 e217_9 e217_10 e217_11 e217_12 e217_13 e217_14 e217_15 e217_16 e217_17 e217_18 e217_19 e217_20 e217_21 e217_22)
      have Ks217 : rR s217 7 = rR σ 7 := by first | assumption | ((try simp only [rR_sF, rR_sA, rR_sT, rR_sL] at e217_0 e217_1 e217_2 e217_3 e217_4 e217_5 e217_6 e217_7 e217_8 e217_9 e217_10 e217_11 e217_12 e217_13 e217_14 e217_15 e217_16 e217_17 e217_18 e217_19 e217_20 e217_21 e217_22); omega)
      have zr217 := fz_rng s217
      have zc217 : fz s217 = 0 → fz s148 = 0 := fun hf => by omega
      have A217 : Im (fz s217 = 0) (RG σ s217 (rR σ 7) x1) := fun hf => RG.trk hp_2 (I148_13 (zc217 hf)) q217_3 (Or.inr (Or.inl rfl))
      obtain ⟨g217, X217⟩ := EN_53 (P := fz s217 = 0) (rF s148 0 29) (rF s148 0 31) hp_2 (fun hf => G148 (zc217 hf)) (fun hf => q217_3) q217_1 q217_2 q217_4 q217_5 q217_6 q217_9 (fun hf => by (try simp only [rF_sT, rF_sA]); (repeat' (with_reducible apply And.intro)) <;> first | trivial | omega)
      have Ou1183 : Im (fz s217 = 0) _ := fun hf => OP.gk0 (O148 (zc217 hf)) (X217 hf).2.1
      have Lu1184 : Im (fz s217 = 0) _ := fun hf => LI.gk0 hp_2 (L148 (zc217 hf)) (O148 (zc217 hf)) q217_3 (X217 hf).2.1
      have Ku1185 : Im (fz s217 = 0) (GK g g217 (rF σ (rR σ 7) 7) (rF s217 (rR σ 7) 7) x1) := fun hf => GK.gs (KA148 (zc217 hf)) (X217 hf).2.1
      have Gu1186 : Im (fz s217 = 0) _ := fun hf => (X217 hf).1
      have O217 : Im (fz s217 = 0) _ := fun hf => (X217 hf).2.2.1
      have rNMp_217 := e217_0 I148_2; clear e217_0
      have TPRp_217 := e217_1 TPRp_148; clear e217_1
      have WNp_217 := e217_2 I148_3; clear e217_2
      have PNp_217 := e217_3 I148_4; clear e217_3
      have CCp_217 := e217_4 CCp_148; clear e217_4
      intro hr_; unfold rng at hr_
      intro hr_; unfold rng at hr_
      refine ⟨(by (try simp only [pre_X14_wordEnd_t, Ks217]); (all_goals (repeat' (first | with_reducible intro _ | with_reducible apply And.intro | with_reducible refine Exists.intro g217 ?_ | with_reducible refine Im.and ?_ ?_))); all_goals (first | assumption | trivial | ((with_reducible refine Im.i fun hf_ => ?_); first | exact (A217 hf_) | exact (Gu1186 hf_) | exact (Ku1185 hf_) | exact (Ou1183 hf_).cst | exact (Lu1184 hf_) | exact (O217 hf_).cst | exact ok1.i | (exact LI.z (fun h => absurd h (by decide))) | (exact absurd hf_ (by omega)) | omega) | (unfold NBP; (try simp only [Ks217]); omega) | (unfold NBQ; (try simp only [Ks217]); omega) | omega | (have zz_ := fz_z (by assumption); omega) | (split <;> omega) | (exact fun hf_ => L_ (by omega)) | ((repeat' split) <;> omega) | done)), ?_⟩
      intro v235 hv235 q235
      unfold rng at hv235
      unfold post_X14_wordEnd_t at q235
      obtain ⟨q235_1, q235_2, q235_3, q235_4⟩ := q235
      (try simp only [Ks217, NBP, NBQ] at q235_1 q235_2 q235_3 q235_4)
      have w_ : rF s148 0 29 < v235 := q235_4 (by have := I148_12 (by omega); exact ⟨by omega, by rw [show rA s217 1026 (rF s148 0 29) = rA s148 1026 (rF s148 0 29) from (show ∀ i, rA s217 1026 i = rA s148 1026 i by assumption) _]; exact this.2⟩)
      refine ⟨(by (try simp only [pre_X14_blanks, reduceIte, and_true, true_and, and_false, false_and, and_self, Nat.reduceEqDiff, fz_sF29, rF_sF, rA_sF, rR_sF, tr_sF, rNMp_sF, PNp_sF, GS_F29, OP_F29, NR_F29, LI_F29, RG_l29, RG_r29, TPRp_sF29, WNp_sF29, VMp_sF29, KYp_sF29, PPp_sF29, WFp_sF29, CCp_sF29, rk_n0 hp_2, Ks217]); (all_goals (repeat' (first | with_reducible intro _ | with_reducible apply And.intro | with_reducible refine Exists.intro g217 ?_ | with_reducible refine Im.and ?_ ?_))); all_goals (first | assumption | trivial | ((with_reducible refine Im.i fun hf_ => ?_); first | exact (A217 hf_) | exact (Gu1186 hf_) | exact (Ku1185 hf_) | exact (Ou1183 hf_).cst | exact (Lu1184 hf_) | exact (O217 hf_).cst | exact ok1.i | (exact LI.z (fun h => absurd h (by decide))) | (exact absurd hf_ (by omega)) | omega) | (unfold NBP; (try simp only [reduceIte, and_true, true_and, and_false, false_and, and_self, Nat.reduceEqDiff, fz_sF29, rF_sF, rA_sF, rR_sF, tr_sF, rNMp_sF, PNp_sF, GS_F29, OP_F29, NR_F29, LI_F29, RG_l29, RG_r29, TPRp_sF29, WNp_sF29, VMp_sF29, KYp_sF29, PPp_sF29, WFp_sF29, CCp_sF29, rk_n0 hp_2, Ks217]); omega) | (unfold NBQ; (try simp only [reduceIte, and_true, true_and, and_false, false_and, and_self, Nat.reduceEqDiff, fz_sF29, rF_sF, rA_sF, rR_sF, tr_sF, rNMp_sF, PNp_sF, GS_F29, OP_F29, NR_F29, LI_F29, RG_l29, RG_r29, TPRp_sF29, WNp_sF29, VMp_sF29, KYp_sF29, PPp_sF29, WFp_sF29, CCp_sF29, rk_n0 hp_2, Ks217]); omega) | omega | (have zz_ := fz_z (by assumption); omega) | (split <;> omega) | (exact fun hf_ => L_ (by omega)) | ((repeat' split) <;> omega) | done)), ?_⟩
      intro s242 Ws242 e242_0 e242_1 e242_2 e242_3 e242_4 e242_5 e242_6 e242_7 e242_8 e242_9 e242_10 e242_11 e242_12 e242_13 e242_14 e242_15 e242_16 e242_17 e242_18 e242_19 e242_20 e242_21 e242_22 R242 q242
      have q242 := dig_blanks q242 (by (try simp only [reduceIte, and_true, true_and, and_false, false_and, and_self, Nat.reduceEqDiff, fz_sF29, rF_sF, rA_sF, rR_sF, tr_sF, rNMp_sF, PNp_sF, GS_F29, OP_F29, NR_F29, LI_F29, RG_l29, RG_r29, TPRp_sF29, WNp_sF29, VMp_sF29, KYp_sF29, PPp_sF29, WFp_sF29, CCp_sF29, rk_n0 hp_2, Ks217]); omega)
      obtain ⟨q242_1, q242_2⟩ := q242
      (try simp only [reduceIte, and_true, true_and, and_false, false_and, and_self, Nat.reduceEqDiff, fz_sF29, rF_sF, rA_sF, rR_sF, tr_sF, rNMp_sF, PNp_sF, GS_F29, OP_F29, NR_F29, LI_F29, RG_l29, RG_r29, TPRp_sF29, WNp_sF29, VMp_sF29, KYp_sF29, PPp_sF29, WFp_sF29, CCp_sF29, rk_n0 hp_2, Ks217, NBP, NBQ] at q242_1 q242_2 e242_0 e242_1 e242_2 e242_3 e242_4 e242_5 e242_6 e242_7 e242_8 e242_9 e242_10 e242_11 e242_12 e242_13 e242_14 e242_15 e242_16 e242_17 e242_18 e242_19 e242_20 e242_21 e242_22 R242)
      have Ks242 : rR s242 7 = rR σ 7 := by first | assumption | ((try simp only [rR_sF, rR_sA, rR_sT, rR_sL] at e242_0 e242_1 e242_2 e242_3 e242_4 e242_5 e242_6 e242_7 e242_8 e242_9 e242_10 e242_11 e242_12 e242_13 e242_14 e242_15 e242_16 e242_17 e242_18 e242_19 e242_20 e242_21 e242_22 R242); omega)
      have zr242 := fz_rng s242
      have zc242 : fz s242 = 0 → fz s217 = 0 := fun hf => by omega
      have A242 : Im (fz s242 = 0) (RG σ s242 (rR σ 7) x1) := fun hf => RG.trk hp_2 (A217 (zc242 hf)) R242 (Or.inr (Or.inl rfl))
      have Ou1187 : Im (fz s242 = 0) _ := fun hf => OP.gk0 (Ou1183 (zc242 hf)) (GK.up (g := g217) (N := rF s217 (rR σ 7) 7) (N' := rF s242 (rR σ 7) 7) (c := 0) (by first | assumption | omega | (simp only [rF_sT, rF_sA]; omega)))
      have Lu1188 : Im (fz s242 = 0) _ := fun hf => LI.gk0 hp_2 (Lu1184 (zc242 hf)) (Ou1183 (zc242 hf)) R242 (GK.up (g := g217) (N := rF s217 (rR σ 7) 7) (N' := rF s242 (rR σ 7) 7) (c := 0) (by first | assumption | omega | (simp only [rF_sT, rF_sA]; omega)))
      have O217u1189 : Im (fz s242 = 0) _ := fun hf => OP.gk0 (O217 (zc242 hf)) (GK.up (g := g217) (N := rF s217 (rR σ 7) 7) (N' := rF s242 (rR σ 7) 7) (c := 0) (by first | assumption | omega | (simp only [rF_sT, rF_sA]; omega)))
      have Ku1190 : Im (fz s242 = 0) (GK g g217 (rF σ (rR σ 7) 7) (rF s242 (rR σ 7) 7) x1) := fun hf => GK.trans (Ku1185 (zc242 hf)) (GK.up (N := rF s217 (rR σ 7) 7) (N' := rF s242 (rR σ 7) 7) (c := 0) (by first | assumption | omega | (simp only [rF_sT, rF_sA]; omega))) (Or.inr (Or.inl rfl))
      have Gu1191 : Im (fz s242 = 0) (GS s242 (rR σ 7) g217) := fun hf => GS.mv hp_2 (Gu1186 (zc242 hf)) R242 (by first | assumption | omega | (simp only [rF_sT, rF_sA]; omega)) (by first | (exact Int.le_of_eq (Eq.symm (by assumption))) | omega | (simp only [rF_sT, rF_sA]; omega))
      have rNMp_242 := e242_0 rNMp_217; clear e242_0
      have TPRp_242 := e242_1 TPRp_217; clear e242_1
      have WNp_242 := e242_2 WNp_217; clear e242_2
      have PNp_242 := e242_3 PNp_217; clear e242_3
      have CCp_242 := e242_4 CCp_217; clear e242_4
      refine ⟨(by (try simp only [pre_X14_here, Ks242]); (all_goals (repeat' (first | with_reducible intro _ | with_reducible apply And.intro | with_reducible refine Exists.intro g217 ?_ | with_reducible refine Im.and ?_ ?_))); all_goals (first | assumption | trivial | ((with_reducible refine Im.i fun hf_ => ?_); first | exact (A242 hf_) | exact (Gu1191 hf_) | exact (Ku1190 hf_) | exact (Ou1187 hf_).cst | exact (Lu1188 hf_) | exact (O217u1189 hf_).cst | exact ok1.i | (exact LI.z (fun h => absurd h (by decide))) | (exact absurd hf_ (by omega)) | omega) | (unfold NBP; (try simp only [Ks242]); omega) | (unfold NBQ; (try simp only [Ks242]); omega) | omega | (have zz_ := fz_z (by assumption); omega) | (split <;> omega) | (exact fun hf_ => L_ (by omega)) | ((repeat' split) <;> omega) | done)), ?_⟩
      intro v246 hv246 q246
      unfold rng at hv246
      unfold post_X14_here at q246
      obtain ⟨q246_1, q246_2⟩ := q246
      (try simp only [Ks242, NBP, NBQ] at q246_1 q246_2)
      refine ⟨fun c251 => ?_, fun c251 => ?_⟩
      · refine ⟨fun c284 => ?_, fun c284 => ?_⟩
        · refine ⟨fun c297 => ?_, fun c297 => ?_⟩
          · refine ⟨(by (try simp only [Ks242]); (all_goals (repeat' (first | with_reducible intro _ | with_reducible apply And.intro | with_reducible refine Exists.intro g217 ?_ | with_reducible refine Im.and ?_ ?_))); all_goals (first | assumption | trivial | ((with_reducible refine Im.i fun hf_ => ?_); first | exact (A242 hf_) | exact (Gu1191 hf_) | exact (Ku1190 hf_) | exact (Ou1187 hf_).cst | exact (Lu1188 hf_) | exact (O217u1189 hf_).cst | exact ok1.i | (exact LI.z (fun h => absurd h (by decide))) | (exact absurd hf_ (by omega)) | omega) | (unfold NBP; (try simp only [Ks242]); omega) | (unfold NBQ; (try simp only [Ks242]); omega) | omega | (have zz_ := fz_z (by assumption); omega) | (split <;> omega) | (exact fun hf_ => L_ (by omega)) | ((repeat' split) <;> omega) | done)), ?_⟩
            obtain ⟨gu1192, Xu1193⟩ := EC_53 (P := fz s242 = 0) (rF s242 0 29) Gu1191 O217u1189 (fun hf => by omega)
            have Ou1194 : Im (fz s242 = 0) _ := fun hf => OP.kc (Ou1187 hf) (Xu1193 hf).2.2 (by omega)
            have Lu1195 : Im (fz s242 = 0) _ := fun hf => LI.kc (Lu1188 hf) (Xu1193 hf).2.2
            have O217u1196 : Im (fz s242 = 0) _ := fun hf => (Xu1193 hf).2.1
            have Ku1197 : Im (fz s242 = 0) (GK g gu1192 (rF σ (rR σ 7) 7) (rF s242 (rR σ 7) 7) x1) := fun hf => GK.kc (Ku1190 hf) (Xu1193 hf).2.2 (by omega)
            have Gu1198 : Im (fz s242 = 0) _ := fun hf => (Xu1193 hf).1
            have A324 : Im (fz s242 = 0) (RG σ (sT s242 (rR σ 7) 5 y148_2 v217) (rR σ 7) x1) := fun hf => RG.tst (f := 5) (i := y148_2) (x := v217) hp_2 (A242 hf) (by decide) (by omega)
            obtain ⟨gs324, Xs324⟩ := EA_2_4 (P := fz s242 = 0) hp_2 Gu1198 Ou1194 Lu1195 O217u1196 (fun _ h => h) (fun hf => by omega)
            have Ku1199 : Im (fz s242 = 0) (GK g gs324 (rF σ (rR σ 7) 7) (rF s242 (rR σ 7) 7) x1) := fun hf => GK.ks (Ku1197 hf) (Xs324 hf).2.2.2.1 (by omega) (by omega)
            have Gu1200 : Im (fz s242 = 0) _ := fun hf => (Xs324 hf).1
            have Ou1201 : Im (fz s242 = 0) _ := fun hf => (Xs324 hf).2.1
            have Lu1202 : Im (fz s242 = 0) _ := fun hf => (Xs324 hf).2.2.1
            refine ⟨(by (try simp only [pre_X14_blanks, reduceIte, and_true, true_and, and_false, false_and, and_self, Nat.reduceEqDiff, fz_sA, rF_sA, rA_sA, rR_sA, rF_sT, rR_sT, sT_sF, fz_sT, rA_sT26 hp_2, rA_sT27 hp_2, rA_sT34 hp_2, rA_sT35 hp_2, rA_sT36 hp_2, rA_sT37 hp_2, rA_sT40 hp_2, TPRp_sT hp_2, WNp_sT hp_2, VMp_sT hp_2, KYp_sT hp_2, PPp_sT hp_2, WFp_sT hp_2, CCp_sT hp_2, rNMp_sT5, PNp_sT5, rk_n0 hp_2, Ks242]); (all_goals (repeat' (first | with_reducible intro _ | with_reducible apply And.intro | with_reducible refine Exists.intro gs324 ?_ | with_reducible refine Im.and ?_ ?_))); all_goals (first | assumption | trivial | ((with_reducible refine Im.i fun hf_ => ?_); first | exact (A324 hf_) | exact (Gu1200 hf_) | exact (Ku1199 hf_) | exact (Ou1201 hf_).cst | exact (Lu1202 hf_) | exact ok1.i | (exact LI.z (fun h => absurd h (by decide))) | (exact absurd hf_ (by omega)) | omega) | (unfold NBP; (try simp only [reduceIte, and_true, true_and, and_false, false_and, and_self, Nat.reduceEqDiff, fz_sA, rF_sA, rA_sA, rR_sA, rF_sT, rR_sT, sT_sF, fz_sT, rA_sT26 hp_2, rA_sT27 hp_2, rA_sT34 hp_2, rA_sT35 hp_2, rA_sT36 hp_2, rA_sT37 hp_2, rA_sT40 hp_2, TPRp_sT hp_2, WNp_sT hp_2, VMp_sT hp_2, KYp_sT hp_2, PPp_sT hp_2, WFp_sT hp_2, CCp_sT hp_2, rNMp_sT5, PNp_sT5, rk_n0 hp_2, Ks242]); omega) | (unfold NBQ; (try simp only [reduceIte, and_true, true_and, and_false, false_and, and_self, Nat.reduceEqDiff, fz_sA, rF_sA, rA_sA, rR_sA, rF_sT, rR_sT, sT_sF, fz_sT, rA_sT26 hp_2, rA_sT27 hp_2, rA_sT34 hp_2, rA_sT35 hp_2, rA_sT36 hp_2, rA_sT37 hp_2, rA_sT40 hp_2, TPRp_sT hp_2, WNp_sT hp_2, VMp_sT hp_2, KYp_sT hp_2, PPp_sT hp_2, WFp_sT hp_2, CCp_sT hp_2, rNMp_sT5, PNp_sT5, rk_n0 hp_2, Ks242]); omega) | omega | (have zz_ := fz_z (by assumption); omega) | (split <;> omega) | (exact fun hf_ => L_ (by omega)) | ((repeat' split) <;> omega) | done)), ?_⟩
            intro s329 Ws329 e329_0 e329_1 e329_2 e329_3 e329_4 e329_5 e329_6 e329_7 e329_8 e329_9 e329_10 e329_11 e329_12 e329_13 e329_14 e329_15 e329_16 e329_17 e329_18 e329_19 e329_20 e329_21 e329_22 R329 q329
            have q329 := dig_blanks q329 (by (try simp only [reduceIte, and_true, true_and, and_false, false_and, and_self, Nat.reduceEqDiff, fz_sA, rF_sA, rA_sA, rR_sA, rF_sT, rR_sT, sT_sF, fz_sT, rA_sT26 hp_2, rA_sT27 hp_2, rA_sT34 hp_2, rA_sT35 hp_2, rA_sT36 hp_2, rA_sT37 hp_2, rA_sT40 hp_2, TPRp_sT hp_2, WNp_sT hp_2, VMp_sT hp_2, KYp_sT hp_2, PPp_sT hp_2, WFp_sT hp_2, CCp_sT hp_2, rNMp_sT5, PNp_sT5, rk_n0 hp_2, Ks242]); omega)
            obtain ⟨q329_1, q329_2⟩ := q329
            (try simp only [reduceIte, and_true, true_and, and_false, false_and, and_self, Nat.reduceEqDiff, fz_sA, rF_sA, rA_sA, rR_sA, rF_sT, rR_sT, sT_sF, fz_sT, rA_sT26 hp_2, rA_sT27 hp_2, rA_sT34 hp_2, rA_sT35 hp_2, rA_sT36 hp_2, rA_sT37 hp_2, rA_sT40 hp_2, TPRp_sT hp_2, WNp_sT hp_2, VMp_sT hp_2, KYp_sT hp_2, PPp_sT hp_2, WFp_sT hp_2, CCp_sT hp_2, rNMp_sT5, PNp_sT5, rk_n0 hp_2, Ks242, NBP, NBQ] at q329_1 q329_2 e329_0 e329_1 e329_2 e329_3 e329_4 e329_5 e329_6 e329_7 e329_8 e329_9 e329_10 e329_11 e329_12 e329_13 e329_14 e329_15 e329_16 e329_17 e329_18 e329_19 e329_20 e329_21 e329_22 R329)
            have Ks329 : rR s329 7 = rR σ 7 := by first | assumption | ((try simp only [rR_sF, rR_sA, rR_sT, rR_sL] at e329_0 e329_1 e329_2 e329_3 e329_4 e329_5 e329_6 e329_7 e329_8 e329_9 e329_10 e329_11 e329_12 e329_13 e329_14 e329_15 e329_16 e329_17 e329_18 e329_19 e329_20 e329_21 e329_22 R329); omega)
            have zr329 := fz_rng s329
            have zc329 : fz s329 = 0 → fz s242 = 0 := fun hf => by omega
            have A329 : Im (fz s329 = 0) (RG σ s329 (rR σ 7) x1) := fun hf => RG.trk hp_2 (A324 (zc329 hf)) R329 (Or.inr (Or.inl rfl))
            have Ou1203 : Im (fz s329 = 0) _ := fun hf => OP.gk0 (Ou1201 (zc329 hf)) (GK.up (g := gs324) (N := rF (sT s242 (rR σ 7) 5 y148_2 v217) (rR σ 7) 7) (N' := rF s329 (rR σ 7) 7) (c := 0) (by first | assumption | omega | (simp only [rF_sT, rF_sA]; omega)))
            have Lu1204 : Im (fz s329 = 0) _ := fun hf => LI.gk0 hp_2 (Lu1202 (zc329 hf)) (Ou1201 (zc329 hf)) R329 (GK.up (g := gs324) (N := rF (sT s242 (rR σ 7) 5 y148_2 v217) (rR σ 7) 7) (N' := rF s329 (rR σ 7) 7) (c := 0) (by first | assumption | omega | (simp only [rF_sT, rF_sA]; omega)))
            have Ku1205 : Im (fz s329 = 0) (GK g gs324 (rF σ (rR σ 7) 7) (rF s329 (rR σ 7) 7) x1) := fun hf => GK.trans (Ku1199 (zc329 hf)) (GK.up (N := rF (sT s242 (rR σ 7) 5 y148_2 v217) (rR σ 7) 7) (N' := rF s329 (rR σ 7) 7) (c := 0) (by first | assumption | omega | (simp only [rF_sT, rF_sA]; omega))) (Or.inr (Or.inl rfl))
            have Gu1206 : Im (fz s329 = 0) (GS s329 (rR σ 7) gs324) := fun hf => GS.mv hp_2 (Gu1200 (zc329 hf)) R329 (by first | assumption | omega | (simp only [rF_sT, rF_sA]; omega)) (by first | (exact Int.le_of_eq (Eq.symm (by assumption))) | omega | (simp only [rF_sT, rF_sA]; omega))
            have rNMp_329 := e329_0 rNMp_242; clear e329_0
            have TPRp_329 := e329_1 TPRp_242; clear e329_1
            have WNp_329 := e329_2 WNp_242; clear e329_2
            have PNp_329 := e329_3 PNp_242; clear e329_3
            have CCp_329 := e329_4 CCp_242; clear e329_4
            refine ⟨(by (try simp only [pre_X14_here, Ks329]); (all_goals (repeat' (first | with_reducible intro _ | with_reducible apply And.intro | with_reducible refine Exists.intro gs324 ?_ | with_reducible refine Im.and ?_ ?_))); all_goals (first | assumption | trivial | ((with_reducible refine Im.i fun hf_ => ?_); first | exact (A329 hf_) | exact (Gu1206 hf_) | exact (Ku1205 hf_) | exact (Ou1203 hf_).cst | exact (Lu1204 hf_) | exact ok1.i | (exact LI.z (fun h => absurd h (by decide))) | (exact absurd hf_ (by omega)) | omega) | (unfold NBP; (try simp only [Ks329]); omega) | (unfold NBQ; (try simp only [Ks329]); omega) | omega | (have zz_ := fz_z (by assumption); omega) | (split <;> omega) | (exact fun hf_ => L_ (by omega)) | ((repeat' split) <;> omega) | done)), ?_⟩
            intro v333 hv333 q333
            unfold rng at hv333
            unfold post_X14_here at q333
            obtain ⟨q333_1, q333_2⟩ := q333
            (try simp only [Ks329, NBP, NBQ] at q333_1 q333_2)
            refine ⟨fun c338 => ?_, fun c338 => ?_⟩
            · exact (by (try simp only [inv_X14_readOptions_25, mu_X14_readOptions_25, Ks329]); (all_goals (repeat' (first | with_reducible intro _ | with_reducible apply And.intro | with_reducible refine Exists.intro gs324 ?_ | with_reducible refine Im.and ?_ ?_))); all_goals (first | assumption | trivial | ((with_reducible refine Im.i fun hf_ => ?_); first | exact (A329 hf_) | exact (Gu1206 hf_) | exact (Ku1205 hf_) | exact (Ou1203 hf_).cst | exact (Lu1204 hf_) | exact ok1.i | (exact LI.z (fun h => absurd h (by decide))) | (exact absurd hf_ (by omega)) | omega) | (unfold NBP; (try simp only [Ks329]); omega) | (unfold NBQ; (try simp only [Ks329]); omega) | omega | (have zz_ := fz_z (by assumption); omega) | (split <;> omega) | (exact fun hf_ => L_ (by omega)) | ((repeat' split) <;> omega) | done))
            · exact (by (try simp only [inv_X14_readOptions_25, mu_X14_readOptions_25, Ks329]); (all_goals (repeat' (first | with_reducible intro _ | with_reducible apply And.intro | with_reducible refine Exists.intro gs324 ?_ | with_reducible refine Im.and ?_ ?_))); all_goals (first | assumption | trivial | ((with_reducible refine Im.i fun hf_ => ?_); first | exact (A329 hf_) | exact (Gu1206 hf_) | exact (Ku1205 hf_) | exact (Ou1203 hf_).cst | exact (Lu1204 hf_) | exact ok1.i | (exact LI.z (fun h => absurd h (by decide))) | (exact absurd hf_ (by omega)) | omega) | (unfold NBP; (try simp only [Ks329]); omega) | (unfold NBQ; (try simp only [Ks329]); omega) | omega | (have zz_ := fz_z (by assumption); omega) | (split <;> omega) | (exact fun hf_ => L_ (by omega)) | ((repeat' split) <;> omega) | done))
          · refine ⟨(by (try simp only [Ks242]); (all_goals (repeat' (first | with_reducible intro _ | with_reducible apply And.intro | with_reducible refine Exists.intro g217 ?_ | with_reducible refine Im.and ?_ ?_))); all_goals (first | assumption | trivial | ((with_reducible refine Im.i fun hf_ => ?_); first | exact (A242 hf_) | exact (Gu1191 hf_) | exact (Ku1190 hf_) | exact (Ou1187 hf_).cst | exact (Lu1188 hf_) | exact (O217u1189 hf_).cst | exact ok1.i | (exact LI.z (fun h => absurd h (by decide))) | (exact absurd hf_ (by omega)) | omega) | (unfold NBP; (try simp only [Ks242]); omega) | (unfold NBQ; (try simp only [Ks242]); omega) | omega | (have zz_ := fz_z (by assumption); omega) | (split <;> omega) | (exact fun hf_ => L_ (by omega)) | ((repeat' split) <;> omega) | done)), ?_⟩
            obtain ⟨gu1207, Xu1208⟩ := EC_53 (P := fz s242 = 0) (rF s242 0 29) Gu1191 O217u1189 (fun hf => by omega)
            have Ou1209 : Im (fz s242 = 0) _ := fun hf => OP.kc (Ou1187 hf) (Xu1208 hf).2.2 (by omega)
            have Lu1210 : Im (fz s242 = 0) _ := fun hf => LI.kc (Lu1188 hf) (Xu1208 hf).2.2
            have O217u1211 : Im (fz s242 = 0) _ := fun hf => (Xu1208 hf).2.1
            have Ku1212 : Im (fz s242 = 0) (GK g gu1207 (rF σ (rR σ 7) 7) (rF s242 (rR σ 7) 7) x1) := fun hf => GK.kc (Ku1190 hf) (Xu1208 hf).2.2 (by omega)
            have Gu1213 : Im (fz s242 = 0) _ := fun hf => (Xu1208 hf).1
            have A310 : Im (fz s242 = 0) (RG σ (sT s242 (rR σ 7) 2 x1 v217) (rR σ 7) x1) := fun hf => RG.tst (f := 2) (i := x1) (x := v217) hp_2 (A242 hf) (by decide) (by omega)
            obtain ⟨gs310, Xs310⟩ := EH_2_4 (P := fz s242 = 0) hp_2 Gu1213 Ou1209 O217u1211 (fun _ h => h) (fun hf => by omega)
            have Ku1214 : Im (fz s242 = 0) (GK g gs310 (rF σ (rR σ 7) 7) (rF s242 (rR σ 7) 7) x1) := fun hf => GK.ks (Ku1212 hf) (Xs310 hf).2.2.2.1 (by omega) (by omega)
            have Gu1215 : Im (fz s242 = 0) _ := fun hf => (Xs310 hf).1
            have Ou1216 : Im (fz s242 = 0) _ := fun hf => (Xs310 hf).2.1
            have Lu1217 : Im (fz s242 = 0) _ := fun hf => (Xs310 hf).2.2.1
            refine ⟨(by (try simp only [pre_X14_blanks, reduceIte, and_true, true_and, and_false, false_and, and_self, Nat.reduceEqDiff, fz_sA, rF_sA, rA_sA, rR_sA, rF_sT, rR_sT, sT_sF, fz_sT, rA_sT26 hp_2, rA_sT27 hp_2, rA_sT34 hp_2, rA_sT35 hp_2, rA_sT36 hp_2, rA_sT37 hp_2, rA_sT40 hp_2, TPRp_sT hp_2, WNp_sT hp_2, VMp_sT hp_2, KYp_sT hp_2, PPp_sT hp_2, WFp_sT hp_2, CCp_sT hp_2, rNMp_sT2, PNp_sT2, rk_n0 hp_2, Ks242]); (all_goals (repeat' (first | with_reducible intro _ | with_reducible apply And.intro | with_reducible refine Exists.intro gs310 ?_ | with_reducible refine Im.and ?_ ?_))); all_goals (first | assumption | trivial | ((with_reducible refine Im.i fun hf_ => ?_); first | exact (A310 hf_) | exact (Gu1215 hf_) | exact (Ku1214 hf_) | exact (Ou1216 hf_).cst | exact (Lu1217 hf_) | exact ok1.i | (exact LI.z (fun h => absurd h (by decide))) | (exact absurd hf_ (by omega)) | omega) | (unfold NBP; (try simp only [reduceIte, and_true, true_and, and_false, false_and, and_self, Nat.reduceEqDiff, fz_sA, rF_sA, rA_sA, rR_sA, rF_sT, rR_sT, sT_sF, fz_sT, rA_sT26 hp_2, rA_sT27 hp_2, rA_sT34 hp_2, rA_sT35 hp_2, rA_sT36 hp_2, rA_sT37 hp_2, rA_sT40 hp_2, TPRp_sT hp_2, WNp_sT hp_2, VMp_sT hp_2, KYp_sT hp_2, PPp_sT hp_2, WFp_sT hp_2, CCp_sT hp_2, rNMp_sT2, PNp_sT2, rk_n0 hp_2, Ks242]); omega) | (unfold NBQ; (try simp only [reduceIte, and_true, true_and, and_false, false_and, and_self, Nat.reduceEqDiff, fz_sA, rF_sA, rA_sA, rR_sA, rF_sT, rR_sT, sT_sF, fz_sT, rA_sT26 hp_2, rA_sT27 hp_2, rA_sT34 hp_2, rA_sT35 hp_2, rA_sT36 hp_2, rA_sT37 hp_2, rA_sT40 hp_2, TPRp_sT hp_2, WNp_sT hp_2, VMp_sT hp_2, KYp_sT hp_2, PPp_sT hp_2, WFp_sT hp_2, CCp_sT hp_2, rNMp_sT2, PNp_sT2, rk_n0 hp_2, Ks242]); omega) | omega | (have zz_ := fz_z (by assumption); omega) | (split <;> omega) | (exact fun hf_ => L_ (by omega)) | ((repeat' split) <;> omega) | done)), ?_⟩
            intro s329 Ws329 e329_0 e329_1 e329_2 e329_3 e329_4 e329_5 e329_6 e329_7 e329_8 e329_9 e329_10 e329_11 e329_12 e329_13 e329_14 e329_15 e329_16 e329_17 e329_18 e329_19 e329_20 e329_21 e329_22 R329 q329
            have q329 := dig_blanks q329 (by (try simp only [reduceIte, and_true, true_and, and_false, false_and, and_self, Nat.reduceEqDiff, fz_sA, rF_sA, rA_sA, rR_sA, rF_sT, rR_sT, sT_sF, fz_sT, rA_sT26 hp_2, rA_sT27 hp_2, rA_sT34 hp_2, rA_sT35 hp_2, rA_sT36 hp_2, rA_sT37 hp_2, rA_sT40 hp_2, TPRp_sT hp_2, WNp_sT hp_2, VMp_sT hp_2, KYp_sT hp_2, PPp_sT hp_2, WFp_sT hp_2, CCp_sT hp_2, rNMp_sT2, PNp_sT2, rk_n0 hp_2, Ks242]); omega)
            obtain ⟨q329_1, q329_2⟩ := q329
            (try simp only [reduceIte, and_true, true_and, and_false, false_and, and_self, Nat.reduceEqDiff, fz_sA, rF_sA, rA_sA, rR_sA, rF_sT, rR_sT, sT_sF, fz_sT, rA_sT26 hp_2, rA_sT27 hp_2, rA_sT34 hp_2, rA_sT35 hp_2, rA_sT36 hp_2, rA_sT37 hp_2, rA_sT40 hp_2, TPRp_sT hp_2, WNp_sT hp_2, VMp_sT hp_2, KYp_sT hp_2, PPp_sT hp_2, WFp_sT hp_2, CCp_sT hp_2, rNMp_sT2, PNp_sT2, rk_n0 hp_2, Ks242, NBP, NBQ] at q329_1 q329_2 e329_0 e329_1 e329_2 e329_3 e329_4 e329_5 e329_6 e329_7 e329_8 e329_9 e329_10 e329_11 e329_12 e329_13 e329_14 e329_15 e329_16 e329_17 e329_18 e329_19 e329_20 e329_21 e329_22 R329)
            have Ks329 : rR s329 7 = rR σ 7 := by first | assumption | ((try simp only [rR_sF, rR_sA, rR_sT, rR_sL] at e329_0 e329_1 e329_2 e329_3 e329_4 e329_5 e329_6 e329_7 e329_8 e329_9 e329_10 e329_11 e329_12 e329_13 e329_14 e329_15 e329_16 e329_17 e329_18 e329_19 e329_20 e329_21 e329_22 R329); omega)
            have zr329 := fz_rng s329
            have zc329 : fz s329 = 0 → fz s242 = 0 := fun hf => by omega
            have A329 : Im (fz s329 = 0) (RG σ s329 (rR σ 7) x1) := fun hf => RG.trk hp_2 (A310 (zc329 hf)) R329 (Or.inr (Or.inl rfl))
            have Ou1218 : Im (fz s329 = 0) _ := fun hf => OP.gk0 (Ou1216 (zc329 hf)) (GK.up (g := gs310) (N := rF (sT s242 (rR σ 7) 2 x1 v217) (rR σ 7) 7) (N' := rF s329 (rR σ 7) 7) (c := 0) (by first | assumption | omega | (simp only [rF_sT, rF_sA]; omega)))
            have Lu1219 : Im (fz s329 = 0) _ := fun hf => LI.gk0 hp_2 (Lu1217 (zc329 hf)) (Ou1216 (zc329 hf)) R329 (GK.up (g := gs310) (N := rF (sT s242 (rR σ 7) 2 x1 v217) (rR σ 7) 7) (N' := rF s329 (rR σ 7) 7) (c := 0) (by first | assumption | omega | (simp only [rF_sT, rF_sA]; omega)))
            have Ku1220 : Im (fz s329 = 0) (GK g gs310 (rF σ (rR σ 7) 7) (rF s329 (rR σ 7) 7) x1) := fun hf => GK.trans (Ku1214 (zc329 hf)) (GK.up (N := rF (sT s242 (rR σ 7) 2 x1 v217) (rR σ 7) 7) (N' := rF s329 (rR σ 7) 7) (c := 0) (by first | assumption | omega | (simp only [rF_sT, rF_sA]; omega))) (Or.inr (Or.inl rfl))
            have Gu1221 : Im (fz s329 = 0) (GS s329 (rR σ 7) gs310) := fun hf => GS.mv hp_2 (Gu1215 (zc329 hf)) R329 (by first | assumption | omega | (simp only [rF_sT, rF_sA]; omega)) (by first | (exact Int.le_of_eq (Eq.symm (by assumption))) | omega | (simp only [rF_sT, rF_sA]; omega))
            have rNMp_329 := e329_0 rNMp_242; clear e329_0
            have TPRp_329 := e329_1 TPRp_242; clear e329_1
            have WNp_329 := e329_2 WNp_242; clear e329_2
            have PNp_329 := e329_3 PNp_242; clear e329_3
            have CCp_329 := e329_4 CCp_242; clear e329_4
            refine ⟨(by (try simp only [pre_X14_here, Ks329]); (all_goals (repeat' (first | with_reducible intro _ | with_reducible apply And.intro | with_reducible refine Exists.intro gs310 ?_ | with_reducible refine Im.and ?_ ?_))); all_goals (first | assumption | trivial | ((with_reducible refine Im.i fun hf_ => ?_); first | exact (A329 hf_) | exact (Gu1221 hf_) | exact (Ku1220 hf_) | exact (Ou1218 hf_).cst | exact (Lu1219 hf_) | exact ok1.i | (exact LI.z (fun h => absurd h (by decide))) | (exact absurd hf_ (by omega)) | omega) | (unfold NBP; (try simp only [Ks329]); omega) | (unfold NBQ; (try simp only [Ks329]); omega) | omega | (have zz_ := fz_z (by assumption); omega) | (split <;> omega) | (exact fun hf_ => L_ (by omega)) | ((repeat' split) <;> omega) | done)), ?_⟩
            intro v333 hv333 q333
            unfold rng at hv333
            unfold post_X14_here at q333
            obtain ⟨q333_1, q333_2⟩ := q333
            (try simp only [Ks329, NBP, NBQ] at q333_1 q333_2)
            refine ⟨fun c338 => ?_, fun c338 => ?_⟩
            · exact (by (try simp only [inv_X14_readOptions_25, mu_X14_readOptions_25, Ks329]); (all_goals (repeat' (first | with_reducible intro _ | with_reducible apply And.intro | with_reducible refine Exists.intro gs310 ?_ | with_reducible refine Im.and ?_ ?_))); all_goals (first | assumption | trivial | ((with_reducible refine Im.i fun hf_ => ?_); first | exact (A329 hf_) | exact (Gu1221 hf_) | exact (Ku1220 hf_) | exact (Ou1218 hf_).cst | exact (Lu1219 hf_) | exact ok1.i | (exact LI.z (fun h => absurd h (by decide))) | (exact absurd hf_ (by omega)) | omega) | (unfold NBP; (try simp only [Ks329]); omega) | (unfold NBQ; (try simp only [Ks329]); omega) | omega | (have zz_ := fz_z (by assumption); omega) | (split <;> omega) | (exact fun hf_ => L_ (by omega)) | ((repeat' split) <;> omega) | done))
            · exact (by (try simp only [inv_X14_readOptions_25, mu_X14_readOptions_25, Ks329]); (all_goals (repeat' (first | with_reducible intro _ | with_reducible apply And.intro | with_reducible refine Exists.intro gs310 ?_ | with_reducible refine Im.and ?_ ?_))); all_goals (first | assumption | trivial | ((with_reducible refine Im.i fun hf_ => ?_); first | exact (A329 hf_) | exact (Gu1221 hf_) | exact (Ku1220 hf_) | exact (Ou1218 hf_).cst | exact (Lu1219 hf_) | exact ok1.i | (exact LI.z (fun h => absurd h (by decide))) | (exact absurd hf_ (by omega)) | omega) | (unfold NBP; (try simp only [Ks329]); omega) | (unfold NBQ; (try simp only [Ks329]); omega) | omega | (have zz_ := fz_z (by assumption); omega) | (split <;> omega) | (exact fun hf_ => L_ (by omega)) | ((repeat' split) <;> omega) | done))
        · refine ⟨(by (try simp only [pre_X14_place, Ks242]); (all_goals (repeat' (first | with_reducible intro _ | with_reducible apply And.intro | with_reducible refine Exists.intro g217 ?_ | with_reducible refine Im.and ?_ ?_))); all_goals (first | assumption | trivial | ((with_reducible refine Im.i fun hf_ => ?_); first | exact (A242 hf_) | exact (Gu1191 hf_) | exact (Ku1190 hf_) | exact (Ou1187 hf_).cst | exact (Lu1188 hf_) | exact (O217u1189 hf_).cst | exact ok1.i | (exact LI.z (fun h => absurd h (by decide))) | (exact absurd hf_ (by omega)) | omega) | (unfold NBP; (try simp only [Ks242]); omega) | (unfold NBQ; (try simp only [Ks242]); omega) | omega | (have zz_ := fz_z (by assumption); omega) | (split <;> omega) | (exact fun hf_ => L_ (by omega)) | ((repeat' split) <;> omega) | done)), ?_⟩
          intro v290 hv290 q290
          unfold rng at hv290
          unfold post_X14_place at q290
          obtain ⟨q290_1, q290_2⟩ := q290
          (try simp only [Ks242, NBP, NBQ] at q290_1 q290_2)
          refine ⟨(by (try simp only [pre_X14_bad, Ks242]); (all_goals (repeat' (first | with_reducible intro _ | with_reducible apply And.intro | with_reducible refine Exists.intro g217 ?_ | with_reducible refine Im.and ?_ ?_))); all_goals (first | assumption | trivial | ((with_reducible refine Im.i fun hf_ => ?_); first | exact (A242 hf_) | exact (Gu1191 hf_) | exact (Ku1190 hf_) | exact (Ou1187 hf_).cst | exact (Lu1188 hf_) | exact (O217u1189 hf_).cst | exact ok1.i | (exact LI.z (fun h => absurd h (by decide))) | (exact absurd hf_ (by omega)) | omega) | (unfold NBP; (try simp only [Ks242]); omega) | (unfold NBQ; (try simp only [Ks242]); omega) | omega | (have zz_ := fz_z (by assumption); omega) | (split <;> omega) | (exact fun hf_ => L_ (by omega)) | ((repeat' split) <;> omega) | done)), ?_⟩
          intro s293 Ws293 e293_0 e293_1 e293_2 e293_3 e293_4 e293_5 e293_6 e293_7 e293_8 e293_9 e293_10 e293_11 e293_12 e293_13 e293_14 e293_15 e293_16 e293_17 e293_18 e293_19 e293_20 e293_21 R293 q293
          have q293 := dig_bad q293 (by (try simp only [Ks242]); omega)
          obtain ⟨q293_1, q293_2⟩ := q293
          (try simp only [Ks242, NBP, NBQ] at q293_1 q293_2 e293_0 e293_1 e293_2 e293_3 e293_4 e293_5 e293_6 e293_7 e293_8 e293_9 e293_10 e293_11 e293_12 e293_13 e293_14 e293_15 e293_16 e293_17 e293_18 e293_19 e293_20 e293_21 R293)
          have Ks293 : rR s293 7 = rR σ 7 := by first | assumption | ((try simp only [rR_sF, rR_sA, rR_sT, rR_sL] at e293_0 e293_1 e293_2 e293_3 e293_4 e293_5 e293_6 e293_7 e293_8 e293_9 e293_10 e293_11 e293_12 e293_13 e293_14 e293_15 e293_16 e293_17 e293_18 e293_19 e293_20 e293_21 R293); omega)
          have zr293 := fz_rng s293
          have zc293 : fz s293 = 0 → fz s242 = 0 := fun hf => by omega
          have A293 : Im (fz s293 = 0) (RG σ s293 (rR σ 7) x1) := fun hf => RG.trk hp_2 (A242 (zc293 hf)) R293 (Or.inr (Or.inl rfl))
          have Ou1222 : Im (fz s293 = 0) _ := fun hf => OP.gk0 (Ou1187 (zc293 hf)) (GK.up (g := g217) (N := rF s242 (rR σ 7) 7) (N' := rF s293 (rR σ 7) 7) (c := 0) (by first | assumption | omega | (simp only [rF_sT, rF_sA]; omega)))
          have Lu1223 : Im (fz s293 = 0) _ := fun hf => LI.gk0 hp_2 (Lu1188 (zc293 hf)) (Ou1187 (zc293 hf)) R293 (GK.up (g := g217) (N := rF s242 (rR σ 7) 7) (N' := rF s293 (rR σ 7) 7) (c := 0) (by first | assumption | omega | (simp only [rF_sT, rF_sA]; omega)))
          have O217u1224 : Im (fz s293 = 0) _ := fun hf => OP.gk0 (O217u1189 (zc293 hf)) (GK.up (g := g217) (N := rF s242 (rR σ 7) 7) (N' := rF s293 (rR σ 7) 7) (c := 0) (by first | assumption | omega | (simp only [rF_sT, rF_sA]; omega)))
          have Ku1225 : Im (fz s293 = 0) (GK g g217 (rF σ (rR σ 7) 7) (rF s293 (rR σ 7) 7) x1) := fun hf => GK.trans (Ku1190 (zc293 hf)) (GK.up (N := rF s242 (rR σ 7) 7) (N' := rF s293 (rR σ 7) 7) (c := 0) (by first | assumption | omega | (simp only [rF_sT, rF_sA]; omega))) (Or.inr (Or.inl rfl))
          have Gu1226 : Im (fz s293 = 0) (GS s293 (rR σ 7) g217) := fun hf => GS.mv hp_2 (Gu1191 (zc293 hf)) R293 (by first | assumption | omega | (simp only [rF_sT, rF_sA]; omega)) (by first | (exact Int.le_of_eq (Eq.symm (by assumption))) | omega | (simp only [rF_sT, rF_sA]; omega))
          have rNMp_293 := e293_0 rNMp_242; clear e293_0
          have TPRp_293 := e293_1 TPRp_242; clear e293_1
          have WNp_293 := e293_2 WNp_242; clear e293_2
          have PNp_293 := e293_3 PNp_242; clear e293_3
          have CCp_293 := e293_4 CCp_242; clear e293_4
          refine ⟨fun c297 => ?_, fun c297 => ?_⟩
          · refine ⟨(by (try simp only [Ks293]); (all_goals (repeat' (first | with_reducible intro _ | with_reducible apply And.intro | with_reducible refine Exists.intro g217 ?_ | with_reducible refine Im.and ?_ ?_))); all_goals (first | assumption | trivial | ((with_reducible refine Im.i fun hf_ => ?_); first | exact (A293 hf_) | exact (Gu1226 hf_) | exact (Ku1225 hf_) | exact (Ou1222 hf_).cst | exact (Lu1223 hf_) | exact (O217u1224 hf_).cst | exact ok1.i | (exact LI.z (fun h => absurd h (by decide))) | (exact absurd hf_ (by omega)) | omega) | (unfold NBP; (try simp only [Ks293]); omega) | (unfold NBQ; (try simp only [Ks293]); omega) | omega | (have zz_ := fz_z (by assumption); omega) | (split <;> omega) | (exact fun hf_ => L_ (by omega)) | ((repeat' split) <;> omega) | done)), ?_⟩
            obtain ⟨gu1227, Xu1228⟩ := EC_53 (P := fz s293 = 0) (rF s242 0 29) Gu1226 O217u1224 (fun hf => by omega)
            have Ou1229 : Im (fz s293 = 0) _ := fun hf => OP.kc (Ou1222 hf) (Xu1228 hf).2.2 (by omega)
            have Lu1230 : Im (fz s293 = 0) _ := fun hf => LI.kc (Lu1223 hf) (Xu1228 hf).2.2
            have O217u1231 : Im (fz s293 = 0) _ := fun hf => (Xu1228 hf).2.1
            have Ku1232 : Im (fz s293 = 0) (GK g gu1227 (rF σ (rR σ 7) 7) (rF s293 (rR σ 7) 7) x1) := fun hf => GK.kc (Ku1225 hf) (Xu1228 hf).2.2 (by omega)
            have Gu1233 : Im (fz s293 = 0) _ := fun hf => (Xu1228 hf).1
            have A324 : Im (fz s293 = 0) (RG σ (sT s293 (rR σ 7) 5 y148_2 v217) (rR σ 7) x1) := fun hf => RG.tst (f := 5) (i := y148_2) (x := v217) hp_2 (A293 hf) (by decide) (by omega)
            obtain ⟨gs324, Xs324⟩ := EA_2_4 (P := fz s293 = 0) hp_2 Gu1233 Ou1229 Lu1230 O217u1231 (fun _ h => h) (fun hf => by omega)
            have Ku1234 : Im (fz s293 = 0) (GK g gs324 (rF σ (rR σ 7) 7) (rF s293 (rR σ 7) 7) x1) := fun hf => GK.ks (Ku1232 hf) (Xs324 hf).2.2.2.1 (by omega) (by omega)
            have Gu1235 : Im (fz s293 = 0) _ := fun hf => (Xs324 hf).1
            have Ou1236 : Im (fz s293 = 0) _ := fun hf => (Xs324 hf).2.1
            have Lu1237 : Im (fz s293 = 0) _ := fun hf => (Xs324 hf).2.2.1
            refine ⟨(by (try simp only [pre_X14_blanks, reduceIte, and_true, true_and, and_false, false_and, and_self, Nat.reduceEqDiff, fz_sA, rF_sA, rA_sA, rR_sA, rF_sT, rR_sT, sT_sF, fz_sT, rA_sT26 hp_2, rA_sT27 hp_2, rA_sT34 hp_2, rA_sT35 hp_2, rA_sT36 hp_2, rA_sT37 hp_2, rA_sT40 hp_2, TPRp_sT hp_2, WNp_sT hp_2, VMp_sT hp_2, KYp_sT hp_2, PPp_sT hp_2, WFp_sT hp_2, CCp_sT hp_2, rNMp_sT5, PNp_sT5, rk_n0 hp_2, Ks293]); (all_goals (repeat' (first | with_reducible intro _ | with_reducible apply And.intro | with_reducible refine Exists.intro gs324 ?_ | with_reducible refine Im.and ?_ ?_))); all_goals (first | assumption | trivial | ((with_reducible refine Im.i fun hf_ => ?_); first | exact (A324 hf_) | exact (Gu1235 hf_) | exact (Ku1234 hf_) | exact (Ou1236 hf_).cst | exact (Lu1237 hf_) | exact ok1.i | (exact LI.z (fun h => absurd h (by decide))) | (exact absurd hf_ (by omega)) | omega) | (unfold NBP; (try simp only [reduceIte, and_true, true_and, and_false, false_and, and_self, Nat.reduceEqDiff, fz_sA, rF_sA, rA_sA, rR_sA, rF_sT, rR_sT, sT_sF, fz_sT, rA_sT26 hp_2, rA_sT27 hp_2, rA_sT34 hp_2, rA_sT35 hp_2, rA_sT36 hp_2, rA_sT37 hp_2, rA_sT40 hp_2, TPRp_sT hp_2, WNp_sT hp_2, VMp_sT hp_2, KYp_sT hp_2, PPp_sT hp_2, WFp_sT hp_2, CCp_sT hp_2, rNMp_sT5, PNp_sT5, rk_n0 hp_2, Ks293]); omega) | (unfold NBQ; (try simp only [reduceIte, and_true, true_and, and_false, false_and, and_self, Nat.reduceEqDiff, fz_sA, rF_sA, rA_sA, rR_sA, rF_sT, rR_sT, sT_sF, fz_sT, rA_sT26 hp_2, rA_sT27 hp_2, rA_sT34 hp_2, rA_sT35 hp_2, rA_sT36 hp_2, rA_sT37 hp_2, rA_sT40 hp_2, TPRp_sT hp_2, WNp_sT hp_2, VMp_sT hp_2, KYp_sT hp_2, PPp_sT hp_2, WFp_sT hp_2, CCp_sT hp_2, rNMp_sT5, PNp_sT5, rk_n0 hp_2, Ks293]); omega) | omega | (have zz_ := fz_z (by assumption); omega) | (split <;> omega) | (exact fun hf_ => L_ (by omega)) | ((repeat' split) <;> omega) | done)), ?_⟩
            intro s329 Ws329 e329_0 e329_1 e329_2 e329_3 e329_4 e329_5 e329_6 e329_7 e329_8 e329_9 e329_10 e329_11 e329_12 e329_13 e329_14 e329_15 e329_16 e329_17 e329_18 e329_19 e329_20 e329_21 e329_22 R329 q329
            have q329 := dig_blanks q329 (by (try simp only [reduceIte, and_true, true_and, and_false, false_and, and_self, Nat.reduceEqDiff, fz_sA, rF_sA, rA_sA, rR_sA, rF_sT, rR_sT, sT_sF, fz_sT, rA_sT26 hp_2, rA_sT27 hp_2, rA_sT34 hp_2, rA_sT35 hp_2, rA_sT36 hp_2, rA_sT37 hp_2, rA_sT40 hp_2, TPRp_sT hp_2, WNp_sT hp_2, VMp_sT hp_2, KYp_sT hp_2, PPp_sT hp_2, WFp_sT hp_2, CCp_sT hp_2, rNMp_sT5, PNp_sT5, rk_n0 hp_2, Ks293]); omega)
            obtain ⟨q329_1, q329_2⟩ := q329
            (try simp only [reduceIte, and_true, true_and, and_false, false_and, and_self, Nat.reduceEqDiff, fz_sA, rF_sA, rA_sA, rR_sA, rF_sT, rR_sT, sT_sF, fz_sT, rA_sT26 hp_2, rA_sT27 hp_2, rA_sT34 hp_2, rA_sT35 hp_2, rA_sT36 hp_2, rA_sT37 hp_2, rA_sT40 hp_2, TPRp_sT hp_2, WNp_sT hp_2, VMp_sT hp_2, KYp_sT hp_2, PPp_sT hp_2, WFp_sT hp_2, CCp_sT hp_2, rNMp_sT5, PNp_sT5, rk_n0 hp_2, Ks293, NBP, NBQ] at q329_1 q329_2 e329_0 e329_1 e329_2 e329_3 e329_4 e329_5 e329_6 e329_7 e329_8 e329_9 e329_10 e329_11 e329_12 e329_13 e329_14 e329_15 e329_16 e329_17 e329_18 e329_19 e329_20 e329_21 e329_22 R329)
            have Ks329 : rR s329 7 = rR σ 7 := by first | assumption | ((try simp only [rR_sF, rR_sA, rR_sT, rR_sL] at e329_0 e329_1 e329_2 e329_3 e329_4 e329_5 e329_6 e329_7 e329_8 e329_9 e329_10 e329_11 e329_12 e329_13 e329_14 e329_15 e329_16 e329_17 e329_18 e329_19 e329_20 e329_21 e329_22 R329); omega)
            have zr329 := fz_rng s329
            have zc329 : fz s329 = 0 → fz s293 = 0 := fun hf => by omega
            have A329 : Im (fz s329 = 0) (RG σ s329 (rR σ 7) x1) := fun hf => RG.trk hp_2 (A324 (zc329 hf)) R329 (Or.inr (Or.inl rfl))
            have Ou1238 : Im (fz s329 = 0) _ := fun hf => OP.gk0 (Ou1236 (zc329 hf)) (GK.up (g := gs324) (N := rF (sT s293 (rR σ 7) 5 y148_2 v217) (rR σ 7) 7) (N' := rF s329 (rR σ 7) 7) (c := 0) (by first | assumption | omega | (simp only [rF_sT, rF_sA]; omega)))
            have Lu1239 : Im (fz s329 = 0) _ := fun hf => LI.gk0 hp_2 (Lu1237 (zc329 hf)) (Ou1236 (zc329 hf)) R329 (GK.up (g := gs324) (N := rF (sT s293 (rR σ 7) 5 y148_2 v217) (rR σ 7) 7) (N' := rF s329 (rR σ 7) 7) (c := 0) (by first | assumption | omega | (simp only [rF_sT, rF_sA]; omega)))
            have Ku1240 : Im (fz s329 = 0) (GK g gs324 (rF σ (rR σ 7) 7) (rF s329 (rR σ 7) 7) x1) := fun hf => GK.trans (Ku1234 (zc329 hf)) (GK.up (N := rF (sT s293 (rR σ 7) 5 y148_2 v217) (rR σ 7) 7) (N' := rF s329 (rR σ 7) 7) (c := 0) (by first | assumption | omega | (simp only [rF_sT, rF_sA]; omega))) (Or.inr (Or.inl rfl))
            have Gu1241 : Im (fz s329 = 0) (GS s329 (rR σ 7) gs324) := fun hf => GS.mv hp_2 (Gu1235 (zc329 hf)) R329 (by first | assumption | omega | (simp only [rF_sT, rF_sA]; omega)) (by first | (exact Int.le_of_eq (Eq.symm (by assumption))) | omega | (simp only [rF_sT, rF_sA]; omega))
            have rNMp_329 := e329_0 rNMp_293; clear e329_0
            have TPRp_329 := e329_1 TPRp_293; clear e329_1
            have WNp_329 := e329_2 WNp_293; clear e329_2
            have PNp_329 := e329_3 PNp_293; clear e329_3
            have CCp_329 := e329_4 CCp_293; clear e329_4
            refine ⟨(by (try simp only [pre_X14_here, Ks329]); (all_goals (repeat' (first | with_reducible intro _ | with_reducible apply And.intro | with_reducible refine Exists.intro gs324 ?_ | with_reducible refine Im.and ?_ ?_))); all_goals (first | assumption | trivial | ((with_reducible refine Im.i fun hf_ => ?_); first | exact (A329 hf_) | exact (Gu1241 hf_) | exact (Ku1240 hf_) | exact (Ou1238 hf_).cst | exact (Lu1239 hf_) | exact ok1.i | (exact LI.z (fun h => absurd h (by decide))) | (exact absurd hf_ (by omega)) | omega) | (unfold NBP; (try simp only [Ks329]); omega) | (unfold NBQ; (try simp only [Ks329]); omega) | omega | (have zz_ := fz_z (by assumption); omega) | (split <;> omega) | (exact fun hf_ => L_ (by omega)) | ((repeat' split) <;> omega) | done)), ?_⟩
            intro v333 hv333 q333
            unfold rng at hv333
            unfold post_X14_here at q333
            obtain ⟨q333_1, q333_2⟩ := q333
            (try simp only [Ks329, NBP, NBQ] at q333_1 q333_2)
            refine ⟨fun c338 => ?_, fun c338 => ?_⟩
            · exact (by (try simp only [inv_X14_readOptions_25, mu_X14_readOptions_25, Ks329]); (all_goals (repeat' (first | with_reducible intro _ | with_reducible apply And.intro | with_reducible refine Exists.intro gs324 ?_ | with_reducible refine Im.and ?_ ?_))); all_goals (first | assumption | trivial | ((with_reducible refine Im.i fun hf_ => ?_); first | exact (A329 hf_) | exact (Gu1241 hf_) | exact (Ku1240 hf_) | exact (Ou1238 hf_).cst | exact (Lu1239 hf_) | exact ok1.i | (exact LI.z (fun h => absurd h (by decide))) | (exact absurd hf_ (by omega)) | omega) | (unfold NBP; (try simp only [Ks329]); omega) | (unfold NBQ; (try simp only [Ks329]); omega) | omega | (have zz_ := fz_z (by assumption); omega) | (split <;> omega) | (exact fun hf_ => L_ (by omega)) | ((repeat' split) <;> omega) | done))
            · exact (by (try simp only [inv_X14_readOptions_25, mu_X14_readOptions_25, Ks329]); (all_goals (repeat' (first | with_reducible intro _ | with_reducible apply And.intro | with_reducible refine Exists.intro gs324 ?_ | with_reducible refine Im.and ?_ ?_))); all_goals (first | assumption | trivial | ((with_reducible refine Im.i fun hf_ => ?_); first | exact (A329 hf_) | exact (Gu1241 hf_) | exact (Ku1240 hf_) | exact (Ou1238 hf_).cst | exact (Lu1239 hf_) | exact ok1.i | (exact LI.z (fun h => absurd h (by decide))) | (exact absurd hf_ (by omega)) | omega) | (unfold NBP; (try simp only [Ks329]); omega) | (unfold NBQ; (try simp only [Ks329]); omega) | omega | (have zz_ := fz_z (by assumption); omega) | (split <;> omega) | (exact fun hf_ => L_ (by omega)) | ((repeat' split) <;> omega) | done))
          · refine ⟨(by (try simp only [Ks293]); (all_goals (repeat' (first | with_reducible intro _ | with_reducible apply And.intro | with_reducible refine Exists.intro g217 ?_ | with_reducible refine Im.and ?_ ?_))); all_goals (first | assumption | trivial | ((with_reducible refine Im.i fun hf_ => ?_); first | exact (A293 hf_) | exact (Gu1226 hf_) | exact (Ku1225 hf_) | exact (Ou1222 hf_).cst | exact (Lu1223 hf_) | exact (O217u1224 hf_).cst | exact ok1.i | (exact LI.z (fun h => absurd h (by decide))) | (exact absurd hf_ (by omega)) | omega) | (unfold NBP; (try simp only [Ks293]); omega) | (unfold NBQ; (try simp only [Ks293]); omega) | omega | (have zz_ := fz_z (by assumption); omega) | (split <;> omega) | (exact fun hf_ => L_ (by omega)) | ((repeat' split) <;> omega) | done)), ?_⟩
            obtain ⟨gu1242, Xu1243⟩ := EC_53 (P := fz s293 = 0) (rF s242 0 29) Gu1226 O217u1224 (fun hf => by omega)
            have Ou1244 : Im (fz s293 = 0) _ := fun hf => OP.kc (Ou1222 hf) (Xu1243 hf).2.2 (by omega)
            have Lu1245 : Im (fz s293 = 0) _ := fun hf => LI.kc (Lu1223 hf) (Xu1243 hf).2.2
            have O217u1246 : Im (fz s293 = 0) _ := fun hf => (Xu1243 hf).2.1
            have Ku1247 : Im (fz s293 = 0) (GK g gu1242 (rF σ (rR σ 7) 7) (rF s293 (rR σ 7) 7) x1) := fun hf => GK.kc (Ku1225 hf) (Xu1243 hf).2.2 (by omega)
            have Gu1248 : Im (fz s293 = 0) _ := fun hf => (Xu1243 hf).1
            have A310 : Im (fz s293 = 0) (RG σ (sT s293 (rR σ 7) 2 x1 v217) (rR σ 7) x1) := fun hf => RG.tst (f := 2) (i := x1) (x := v217) hp_2 (A293 hf) (by decide) (by omega)
            obtain ⟨gs310, Xs310⟩ := EH_2_4 (P := fz s293 = 0) hp_2 Gu1248 Ou1244 O217u1246 (fun _ h => h) (fun hf => by omega)
            have Ku1249 : Im (fz s293 = 0) (GK g gs310 (rF σ (rR σ 7) 7) (rF s293 (rR σ 7) 7) x1) := fun hf => GK.ks (Ku1247 hf) (Xs310 hf).2.2.2.1 (by omega) (by omega)
            have Gu1250 : Im (fz s293 = 0) _ := fun hf => (Xs310 hf).1
            have Ou1251 : Im (fz s293 = 0) _ := fun hf => (Xs310 hf).2.1
            have Lu1252 : Im (fz s293 = 0) _ := fun hf => (Xs310 hf).2.2.1
            refine ⟨(by (try simp only [pre_X14_blanks, reduceIte, and_true, true_and, and_false, false_and, and_self, Nat.reduceEqDiff, fz_sA, rF_sA, rA_sA, rR_sA, rF_sT, rR_sT, sT_sF, fz_sT, rA_sT26 hp_2, rA_sT27 hp_2, rA_sT34 hp_2, rA_sT35 hp_2, rA_sT36 hp_2, rA_sT37 hp_2, rA_sT40 hp_2, TPRp_sT hp_2, WNp_sT hp_2, VMp_sT hp_2, KYp_sT hp_2, PPp_sT hp_2, WFp_sT hp_2, CCp_sT hp_2, rNMp_sT2, PNp_sT2, rk_n0 hp_2, Ks293]); (all_goals (repeat' (first | with_reducible intro _ | with_reducible apply And.intro | with_reducible refine Exists.intro gs310 ?_ | with_reducible refine Im.and ?_ ?_))); all_goals (first | assumption | trivial | ((with_reducible refine Im.i fun hf_ => ?_); first | exact (A310 hf_) | exact (Gu1250 hf_) | exact (Ku1249 hf_) | exact (Ou1251 hf_).cst | exact (Lu1252 hf_) | exact ok1.i | (exact LI.z (fun h => absurd h (by decide))) | (exact absurd hf_ (by omega)) | omega) | (unfold NBP; (try simp only [reduceIte, and_true, true_and, and_false, false_and, and_self, Nat.reduceEqDiff, fz_sA, rF_sA, rA_sA, rR_sA, rF_sT, rR_sT, sT_sF, fz_sT, rA_sT26 hp_2, rA_sT27 hp_2, rA_sT34 hp_2, rA_sT35 hp_2, rA_sT36 hp_2, rA_sT37 hp_2, rA_sT40 hp_2, TPRp_sT hp_2, WNp_sT hp_2, VMp_sT hp_2, KYp_sT hp_2, PPp_sT hp_2, WFp_sT hp_2, CCp_sT hp_2, rNMp_sT2, PNp_sT2, rk_n0 hp_2, Ks293]); omega) | (unfold NBQ; (try simp only [reduceIte, and_true, true_and, and_false, false_and, and_self, Nat.reduceEqDiff, fz_sA, rF_sA, rA_sA, rR_sA, rF_sT, rR_sT, sT_sF, fz_sT, rA_sT26 hp_2, rA_sT27 hp_2, rA_sT34 hp_2, rA_sT35 hp_2, rA_sT36 hp_2, rA_sT37 hp_2, rA_sT40 hp_2, TPRp_sT hp_2, WNp_sT hp_2, VMp_sT hp_2, KYp_sT hp_2, PPp_sT hp_2, WFp_sT hp_2, CCp_sT hp_2, rNMp_sT2, PNp_sT2, rk_n0 hp_2, Ks293]); omega) | omega | (have zz_ := fz_z (by assumption); omega) | (split <;> omega) | (exact fun hf_ => L_ (by omega)) | ((repeat' split) <;> omega) | done)), ?_⟩
            intro s329 Ws329 e329_0 e329_1 e329_2 e329_3 e329_4 e329_5 e329_6 e329_7 e329_8 e329_9 e329_10 e329_11 e329_12 e329_13 e329_14 e329_15 e329_16 e329_17 e329_18 e329_19 e329_20 e329_21 e329_22 R329 q329
            have q329 := dig_blanks q329 (by (try simp only [reduceIte, and_true, true_and, and_false, false_and, and_self, Nat.reduceEqDiff, fz_sA, rF_sA, rA_sA, rR_sA, rF_sT, rR_sT, sT_sF, fz_sT, rA_sT26 hp_2, rA_sT27 hp_2, rA_sT34 hp_2, rA_sT35 hp_2, rA_sT36 hp_2, rA_sT37 hp_2, rA_sT40 hp_2, TPRp_sT hp_2, WNp_sT hp_2, VMp_sT hp_2, KYp_sT hp_2, PPp_sT hp_2, WFp_sT hp_2, CCp_sT hp_2, rNMp_sT2, PNp_sT2, rk_n0 hp_2, Ks293]); omega)
            obtain ⟨q329_1, q329_2⟩ := q329
            (try simp only [reduceIte, and_true, true_and, and_false, false_and, and_self, Nat.reduceEqDiff, fz_sA, rF_sA, rA_sA, rR_sA, rF_sT, rR_sT, sT_sF, fz_sT, rA_sT26 hp_2, rA_sT27 hp_2, rA_sT34 hp_2, rA_sT35 hp_2, rA_sT36 hp_2, rA_sT37 hp_2, rA_sT40 hp_2, TPRp_sT hp_2, WNp_sT hp_2, VMp_sT hp_2, KYp_sT hp_2, PPp_sT hp_2, WFp_sT hp_2, CCp_sT hp_2, rNMp_sT2, PNp_sT2, rk_n0 hp_2, Ks293, NBP, NBQ] at q329_1 q329_2 e329_0 e329_1 e329_2 e329_3 e329_4 e329_5 e329_6 e329_7 e329_8 e329_9 e329_10 e329_11 e329_12 e329_13 e329_14 e329_15 e329_16 e329_17 e329_18 e329_19 e329_20 e329_21 e329_22 R329)
            have Ks329 : rR s329 7 = rR σ 7 := by first | assumption | ((try simp only [rR_sF, rR_sA, rR_sT, rR_sL] at e329_0 e329_1 e329_2 e329_3 e329_4 e329_5 e329_6 e329_7 e329_8 e329_9 e329_10 e329_11 e329_12 e329_13 e329_14 e329_15 e329_16 e329_17 e329_18 e329_19 e329_20 e329_21 e329_22 R329); omega)
            have zr329 := fz_rng s329
            have zc329 : fz s329 = 0 → fz s293 = 0 := fun hf => by omega
            have A329 : Im (fz s329 = 0) (RG σ s329 (rR σ 7) x1) := fun hf => RG.trk hp_2 (A310 (zc329 hf)) R329 (Or.inr (Or.inl rfl))
            have Ou1253 : Im (fz s329 = 0) _ := fun hf => OP.gk0 (Ou1251 (zc329 hf)) (GK.up (g := gs310) (N := rF (sT s293 (rR σ 7) 2 x1 v217) (rR σ 7) 7) (N' := rF s329 (rR σ 7) 7) (c := 0) (by first | assumption | omega | (simp only [rF_sT, rF_sA]; omega)))
            have Lu1254 : Im (fz s329 = 0) _ := fun hf => LI.gk0 hp_2 (Lu1252 (zc329 hf)) (Ou1251 (zc329 hf)) R329 (GK.up (g := gs310) (N := rF (sT s293 (rR σ 7) 2 x1 v217) (rR σ 7) 7) (N' := rF s329 (rR σ 7) 7) (c := 0) (by first | assumption | omega | (simp only [rF_sT, rF_sA]; omega)))
            have Ku1255 : Im (fz s329 = 0) (GK g gs310 (rF σ (rR σ 7) 7) (rF s329 (rR σ 7) 7) x1) := fun hf => GK.trans (Ku1249 (zc329 hf)) (GK.up (N := rF (sT s293 (rR σ 7) 2 x1 v217) (rR σ 7) 7) (N' := rF s329 (rR σ 7) 7) (c := 0) (by first | assumption | omega | (simp only [rF_sT, rF_sA]; omega))) (Or.inr (Or.inl rfl))
            have Gu1256 : Im (fz s329 = 0) (GS s329 (rR σ 7) gs310) := fun hf => GS.mv hp_2 (Gu1250 (zc329 hf)) R329 (by first | assumption | omega | (simp only [rF_sT, rF_sA]; omega)) (by first | (exact Int.le_of_eq (Eq.symm (by assumption))) | omega | (simp only [rF_sT, rF_sA]; omega))
            have rNMp_329 := e329_0 rNMp_293; clear e329_0
            have TPRp_329 := e329_1 TPRp_293; clear e329_1
            have WNp_329 := e329_2 WNp_293; clear e329_2
            have PNp_329 := e329_3 PNp_293; clear e329_3
            have CCp_329 := e329_4 CCp_293; clear e329_4
            refine ⟨(by (try simp only [pre_X14_here, Ks329]); (all_goals (repeat' (first | with_reducible intro _ | with_reducible apply And.intro | with_reducible refine Exists.intro gs310 ?_ | with_reducible refine Im.and ?_ ?_))); all_goals (first | assumption | trivial | ((with_reducible refine Im.i fun hf_ => ?_); first | exact (A329 hf_) | exact (Gu1256 hf_) | exact (Ku1255 hf_) | exact (Ou1253 hf_).cst | exact (Lu1254 hf_) | exact ok1.i | (exact LI.z (fun h => absurd h (by decide))) | (exact absurd hf_ (by omega)) | omega) | (unfold NBP; (try simp only [Ks329]); omega) | (unfold NBQ; (try simp only [Ks329]); omega) | omega | (have zz_ := fz_z (by assumption); omega) | (split <;> omega) | (exact fun hf_ => L_ (by omega)) | ((repeat' split) <;> omega) | done)), ?_⟩
            intro v333 hv333 q333
            unfold rng at hv333
            unfold post_X14_here at q333
            obtain ⟨q333_1, q333_2⟩ := q333
            (try simp only [Ks329, NBP, NBQ] at q333_1 q333_2)
            refine ⟨fun c338 => ?_, fun c338 => ?_⟩
            · exact (by (try simp only [inv_X14_readOptions_25, mu_X14_readOptions_25, Ks329]); (all_goals (repeat' (first | with_reducible intro _ | with_reducible apply And.intro | with_reducible refine Exists.intro gs310 ?_ | with_reducible refine Im.and ?_ ?_))); all_goals (first | assumption | trivial | ((with_reducible refine Im.i fun hf_ => ?_); first | exact (A329 hf_) | exact (Gu1256 hf_) | exact (Ku1255 hf_) | exact (Ou1253 hf_).cst | exact (Lu1254 hf_) | exact ok1.i | (exact LI.z (fun h => absurd h (by decide))) | (exact absurd hf_ (by omega)) | omega) | (unfold NBP; (try simp only [Ks329]); omega) | (unfold NBQ; (try simp only [Ks329]); omega) | omega | (have zz_ := fz_z (by assumption); omega) | (split <;> omega) | (exact fun hf_ => L_ (by omega)) | ((repeat' split) <;> omega) | done))
            · exact (by (try simp only [inv_X14_readOptions_25, mu_X14_readOptions_25, Ks329]); (all_goals (repeat' (first | with_reducible intro _ | with_reducible apply And.intro | with_reducible refine Exists.intro gs310 ?_ | with_reducible refine Im.and ?_ ?_))); all_goals (first | assumption | trivial | ((with_reducible refine Im.i fun hf_ => ?_); first | exact (A329 hf_) | exact (Gu1256 hf_) | exact (Ku1255 hf_) | exact (Ou1253 hf_).cst | exact (Lu1254 hf_) | exact ok1.i | (exact LI.z (fun h => absurd h (by decide))) | (exact absurd hf_ (by omega)) | omega) | (unfold NBP; (try simp only [Ks329]); omega) | (unfold NBQ; (try simp only [Ks329]); omega) | omega | (have zz_ := fz_z (by assumption); omega) | (split <;> omega) | (exact fun hf_ => L_ (by omega)) | ((repeat' split) <;> omega) | done))
      · intro hr_; unfold rng at hr_
        refine ⟨(by (try simp only [rng, Ks242]); (all_goals (repeat' (first | with_reducible intro _ | with_reducible apply And.intro | with_reducible refine Exists.intro g217 ?_ | with_reducible refine Im.and ?_ ?_))); all_goals (first | assumption | trivial | ((with_reducible refine Im.i fun hf_ => ?_); first | exact (A242 hf_) | exact (Gu1191 hf_) | exact (Ku1190 hf_) | exact (Ou1187 hf_).cst | exact (Lu1188 hf_) | exact (O217u1189 hf_).cst | exact ok1.i | (exact LI.z (fun h => absurd h (by decide))) | (exact absurd hf_ (by omega)) | omega) | (unfold NBP; (try simp only [Ks242]); omega) | (unfold NBQ; (try simp only [Ks242]); omega) | omega | (have zz_ := fz_z (by assumption); omega) | (split <;> omega) | (exact fun hf_ => L_ (by omega)) | ((repeat' split) <;> omega) | done)), ?_⟩
        refine ⟨g217, ?_⟩
        refine ⟨(by (try simp only [pre_X14_readArg, reduceIte, and_true, true_and, and_false, false_and, and_self, Nat.reduceEqDiff, fz_sF29, rF_sF, rA_sF, rR_sF, tr_sF, rNMp_sF, PNp_sF, GS_F29, OP_F29, NR_F29, LI_F29, RG_l29, RG_r29, TPRp_sF29, WNp_sF29, VMp_sF29, KYp_sF29, PPp_sF29, WFp_sF29, CCp_sF29, rk_n0 hp_2, Ks242]); (all_goals (repeat' (first | with_reducible intro _ | with_reducible apply And.intro | with_reducible refine Exists.intro g217 ?_ | with_reducible refine Im.and ?_ ?_))); all_goals (first | assumption | trivial | ((with_reducible refine Im.i fun hf_ => ?_); first | exact (A242 hf_) | exact (Gu1191 hf_) | exact (Ku1190 hf_) | exact (Ou1187 hf_).cst | exact (Lu1188 hf_) | exact (O217u1189 hf_).cst | exact ok1.i | (exact LI.z (fun h => absurd h (by decide))) | (exact absurd hf_ (by omega)) | omega) | (unfold NBP; (try simp only [reduceIte, and_true, true_and, and_false, false_and, and_self, Nat.reduceEqDiff, fz_sF29, rF_sF, rA_sF, rR_sF, tr_sF, rNMp_sF, PNp_sF, GS_F29, OP_F29, NR_F29, LI_F29, RG_l29, RG_r29, TPRp_sF29, WNp_sF29, VMp_sF29, KYp_sF29, PPp_sF29, WFp_sF29, CCp_sF29, rk_n0 hp_2, Ks242]); omega) | (unfold NBQ; (try simp only [reduceIte, and_true, true_and, and_false, false_and, and_self, Nat.reduceEqDiff, fz_sF29, rF_sF, rA_sF, rR_sF, tr_sF, rNMp_sF, PNp_sF, GS_F29, OP_F29, NR_F29, LI_F29, RG_l29, RG_r29, TPRp_sF29, WNp_sF29, VMp_sF29, KYp_sF29, PPp_sF29, WFp_sF29, CCp_sF29, rk_n0 hp_2, Ks242]); omega) | omega | (have zz_ := fz_z (by assumption); omega) | (split <;> omega) | (exact fun hf_ => L_ (by omega)) | ((repeat' split) <;> omega) | done)), ?_⟩
        refine ⟨(by (try simp only [rk_X14_readArg, reduceIte, and_true, true_and, and_false, false_and, and_self, Nat.reduceEqDiff, fz_sF29, rF_sF, rA_sF, rR_sF, tr_sF, rNMp_sF, PNp_sF, GS_F29, OP_F29, NR_F29, LI_F29, RG_l29, RG_r29, TPRp_sF29, WNp_sF29, VMp_sF29, KYp_sF29, PPp_sF29, WFp_sF29, CCp_sF29, rk_n0 hp_2, Ks242]); (all_goals (repeat' (first | with_reducible intro _ | with_reducible apply And.intro | with_reducible refine Exists.intro g217 ?_ | with_reducible refine Im.and ?_ ?_))); all_goals (first | assumption | trivial | ((with_reducible refine Im.i fun hf_ => ?_); first | exact (A242 hf_) | exact (Gu1191 hf_) | exact (Ku1190 hf_) | exact (Ou1187 hf_).cst | exact (Lu1188 hf_) | exact (O217u1189 hf_).cst | exact ok1.i | (exact LI.z (fun h => absurd h (by decide))) | (exact absurd hf_ (by omega)) | omega) | (unfold NBP; (try simp only [reduceIte, and_true, true_and, and_false, false_and, and_self, Nat.reduceEqDiff, fz_sF29, rF_sF, rA_sF, rR_sF, tr_sF, rNMp_sF, PNp_sF, GS_F29, OP_F29, NR_F29, LI_F29, RG_l29, RG_r29, TPRp_sF29, WNp_sF29, VMp_sF29, KYp_sF29, PPp_sF29, WFp_sF29, CCp_sF29, rk_n0 hp_2, Ks242]); omega) | (unfold NBQ; (try simp only [reduceIte, and_true, true_and, and_false, false_and, and_self, Nat.reduceEqDiff, fz_sF29, rF_sF, rA_sF, rR_sF, tr_sF, rNMp_sF, PNp_sF, GS_F29, OP_F29, NR_F29, LI_F29, RG_l29, RG_r29, TPRp_sF29, WNp_sF29, VMp_sF29, KYp_sF29, PPp_sF29, WFp_sF29, CCp_sF29, rk_n0 hp_2, Ks242]); omega) | omega | (have zz_ := fz_z (by assumption); omega) | (split <;> omega) | (exact fun hf_ => L_ (by omega)) | ((repeat' split) <;> omega) | done)), ?_⟩
        intro v274 s274 hv274 Ws274 e274_0 e274_1 e274_2 e274_3 e274_4 e274_5 e274_6 e274_7 e274_8 e274_9 q274
        unfold rng at hv274
        unfold post_X14_readArg at q274
        obtain ⟨q274_1, q274_2, q274_3, q274_4, q274_5, q274_6, q274_7, q274_8, q274_9⟩ := q274
        (try simp only [reduceIte, and_true, true_and, and_false, false_and, and_self, Nat.reduceEqDiff, fz_sF29, rF_sF, rA_sF, rR_sF, tr_sF, rNMp_sF, PNp_sF, GS_F29, OP_F29, NR_F29, LI_F29, RG_l29, RG_r29, TPRp_sF29, WNp_sF29, VMp_sF29, KYp_sF29, PPp_sF29, WFp_sF29, CCp_sF29, rk_n0 hp_2, Ks242, NBP, NBQ] at q274_1 q274_2 q274_3 q274_4 q274_5 q274_6 q274_7 q274_8 q274_9 e274_0 e274_1 e274_2 e274_3 e274_4 e274_5 e274_6 e274_7 e274_8 e274_9)
        have Ks274 : rR s274 7 = rR σ 7 := by first | assumption | ((try simp only [rR_sF, rR_sA, rR_sT, rR_sL] at e274_0 e274_1 e274_2 e274_3 e274_4 e274_5 e274_6 e274_7 e274_8 e274_9); omega)
        have zr274 := fz_rng s274
        have zc274 : fz s274 = 0 → fz s242 = 0 := fun hf => by omega
        have A274 : Im (fz s274 = 0) (RG σ s274 (rR σ 7) x1) := fun hf => RG.trk hp_2 (A242 (zc274 hf)) (q274_8 (by omega)) (Or.inr (Or.inl rfl))
        obtain ⟨g274, X274⟩ := q274_9
        have Ou1257 : Im (fz s274 = 0) _ := fun hf => OP.gk0 (Ou1187 (zc274 hf)) ((X274 hf).2.1)
        have Lu1258 : Im (fz s274 = 0) _ := fun hf => LI.gk0 hp_2 (Lu1188 (zc274 hf)) (Ou1187 (zc274 hf)) (q274_8 (by omega)) ((X274 hf).2.1)
        have O217u1259 : Im (fz s274 = 0) _ := fun hf => OP.gk0 (O217u1189 (zc274 hf)) ((X274 hf).2.1)
        have Ku1260 : Im (fz s274 = 0) (GK g g274 (rF σ (rR σ 7) 7) (rF s274 (rR σ 7) 7) x1) := fun hf => GK.trans (Ku1190 (zc274 hf)) ((X274 hf).2.1) (Or.inr (Or.inl rfl))
        have Gu1261 : Im (fz s274 = 0) (GS s274 (rR σ 7) g274) := fun hf => (X274 hf).1
        have r274 : Im (fz s274 = 0) _ := fun hf => (X274 hf).2.2.1
        have TPRp_274 := e274_0 TPRp_242; clear e274_0
        have CCp_274 := e274_1 CCp_242; clear e274_1
        refine ⟨(by (try simp only [Ks274]); (all_goals (repeat' (first | with_reducible intro _ | with_reducible apply And.intro | with_reducible refine Exists.intro g274 ?_ | with_reducible refine Im.and ?_ ?_))); all_goals (first | assumption | trivial | ((with_reducible refine Im.i fun hf_ => ?_); first | exact (A274 hf_) | exact (Gu1261 hf_) | exact (Ku1260 hf_) | exact (Ou1257 hf_).cst | exact (Lu1258 hf_) | exact (O217u1259 hf_).cst | exact (r274 hf_).cst | exact ok1.i | (exact LI.z (fun h => absurd h (by decide))) | (exact absurd hf_ (by omega)) | omega) | (unfold NBP; (try simp only [Ks274]); omega) | (unfold NBQ; (try simp only [Ks274]); omega) | omega | (have zz_ := fz_z (by assumption); omega) | (split <;> omega) | (exact fun hf_ => L_ (by omega)) | ((repeat' split) <;> omega) | done)), ?_⟩
        have A277 : Im (fz s274 = 0) (RG σ (sT s274 (rR σ 7) 2 v217 v274) (rR σ 7) x1) := fun hf => RG.tst (f := 2) (i := v217) (x := v274) hp_2 (A274 hf) (by decide) (by omega)
        obtain ⟨gs277, Xs277⟩ := EH_2_53 (P := fz s274 = 0) hp_2 Gu1261 O217u1259 r274 (fun _ h => h) (fun hf => by omega)
        have Ou1262 : Im (fz s274 = 0) _ := fun hf => OP.ks (ff := 2) (i := v217) (z := v274) (Ou1257 hf) (Xs277 hf).2.2.2.1 (by omega) (Xs277 hf).2.2.2.2.2.2
        have Lu1263 : Im (fz s274 = 0) _ := fun hf => LI.ks (ff := 2) (fi := v217) (z := v274) hp_2 (by decide) (Lu1258 hf) (Ou1257 hf) (Xs277 hf).2.2.2.1 (by omega) (Xs277 hf).2.2.2.2.1.2 (Xs277 hf).2.2.2.2.2 (fun h => absurd h (by decide))
        have Ku1264 : Im (fz s274 = 0) (GK g gs277 (rF σ (rR σ 7) 7) (rF s274 (rR σ 7) 7) x1) := fun hf => GK.ks (Ku1260 hf) (Xs277 hf).2.2.2.1 (by omega) (by omega)
        have Gu1265 : Im (fz s274 = 0) _ := fun hf => (Xs277 hf).1
        have O217u1266 : Im (fz s274 = 0) _ := fun hf => (Xs277 hf).2.1
        have L277u1267 : Im (fz s274 = 0) _ := fun hf => (Xs277 hf).2.2.1
        refine ⟨fun c297 => ?_, fun c297 => ?_⟩
        · refine ⟨(by (try simp only [reduceIte, and_true, true_and, and_false, false_and, and_self, Nat.reduceEqDiff, fz_sA, rF_sA, rA_sA, rR_sA, rF_sT, rR_sT, sT_sF, fz_sT, rA_sT26 hp_2, rA_sT27 hp_2, rA_sT34 hp_2, rA_sT35 hp_2, rA_sT36 hp_2, rA_sT37 hp_2, rA_sT40 hp_2, TPRp_sT hp_2, WNp_sT hp_2, VMp_sT hp_2, KYp_sT hp_2, PPp_sT hp_2, WFp_sT hp_2, CCp_sT hp_2, rNMp_sT2, PNp_sT2, rk_n0 hp_2, Ks274]); (all_goals (repeat' (first | with_reducible intro _ | with_reducible apply And.intro | with_reducible refine Exists.intro gs277 ?_ | with_reducible refine Im.and ?_ ?_))); all_goals (first | assumption | trivial | ((with_reducible refine Im.i fun hf_ => ?_); first | exact (A277 hf_) | exact (Gu1265 hf_) | exact (Ku1264 hf_) | exact (Ou1262 hf_).cst | exact (Lu1263 hf_) | exact (O217u1266 hf_).cst | exact (L277u1267 hf_) | exact ok1.i | (exact LI.z (fun h => absurd h (by decide))) | (exact absurd hf_ (by omega)) | omega) | (unfold NBP; (try simp only [reduceIte, and_true, true_and, and_false, false_and, and_self, Nat.reduceEqDiff, fz_sA, rF_sA, rA_sA, rR_sA, rF_sT, rR_sT, sT_sF, fz_sT, rA_sT26 hp_2, rA_sT27 hp_2, rA_sT34 hp_2, rA_sT35 hp_2, rA_sT36 hp_2, rA_sT37 hp_2, rA_sT40 hp_2, TPRp_sT hp_2, WNp_sT hp_2, VMp_sT hp_2, KYp_sT hp_2, PPp_sT hp_2, WFp_sT hp_2, CCp_sT hp_2, rNMp_sT2, PNp_sT2, rk_n0 hp_2, Ks274]); omega) | (unfold NBQ; (try simp only [reduceIte, and_true, true_and, and_false, false_and, and_self, Nat.reduceEqDiff, fz_sA, rF_sA, rA_sA, rR_sA, rF_sT, rR_sT, sT_sF, fz_sT, rA_sT26 hp_2, rA_sT27 hp_2, rA_sT34 hp_2, rA_sT35 hp_2, rA_sT36 hp_2, rA_sT37 hp_2, rA_sT40 hp_2, TPRp_sT hp_2, WNp_sT hp_2, VMp_sT hp_2, KYp_sT hp_2, PPp_sT hp_2, WFp_sT hp_2, CCp_sT hp_2, rNMp_sT2, PNp_sT2, rk_n0 hp_2, Ks274]); omega) | omega | (have zz_ := fz_z (by assumption); omega) | (split <;> omega) | (exact fun hf_ => L_ (by omega)) | ((repeat' split) <;> omega) | done)), ?_⟩
          obtain ⟨gu1268, Xu1269⟩ := EC_53 (P := fz s274 = 0) (rF s274 0 29) Gu1265 O217u1266 (fun hf => by omega)
          have Ou1270 : Im (fz s274 = 0) _ := fun hf => OP.kc (Ou1262 hf) (Xu1269 hf).2.2 (by omega)
          have Lu1271 : Im (fz s274 = 0) _ := fun hf => LI.kc (Lu1263 hf) (Xu1269 hf).2.2
          have O217u1272 : Im (fz s274 = 0) _ := fun hf => (Xu1269 hf).2.1
          have Ku1273 : Im (fz s274 = 0) (GK g gu1268 (rF σ (rR σ 7) 7) (rF s274 (rR σ 7) 7) x1) := fun hf => GK.kc (Ku1264 hf) (Xu1269 hf).2.2 (by omega)
          have Gu1274 : Im (fz s274 = 0) _ := fun hf => (Xu1269 hf).1
          have A324 : Im (fz s274 = 0) (RG σ (sT (sT s274 (rR σ 7) 2 v217 v274) (rR σ 7) 5 y148_2 v217) (rR σ 7) x1) := fun hf => RG.tst (f := 5) (i := y148_2) (x := v217) hp_2 (A277 hf) (by decide) (by omega)
          obtain ⟨gs324, Xs324⟩ := EA_2_4 (P := fz s274 = 0) hp_2 Gu1274 Ou1270 Lu1271 O217u1272 (fun _ h => h) (fun hf => by omega)
          have Ku1275 : Im (fz s274 = 0) (GK g gs324 (rF σ (rR σ 7) 7) (rF s274 (rR σ 7) 7) x1) := fun hf => GK.ks (Ku1273 hf) (Xs324 hf).2.2.2.1 (by omega) (by omega)
          have Gu1276 : Im (fz s274 = 0) _ := fun hf => (Xs324 hf).1
          have Ou1277 : Im (fz s274 = 0) _ := fun hf => (Xs324 hf).2.1
          have Lu1278 : Im (fz s274 = 0) _ := fun hf => (Xs324 hf).2.2.1
          refine ⟨(by (try simp only [pre_X14_blanks, reduceIte, and_true, true_and, and_false, false_and, and_self, Nat.reduceEqDiff, fz_sA, rF_sA, rA_sA, rR_sA, rF_sT, rR_sT, sT_sF, fz_sT, rA_sT26 hp_2, rA_sT27 hp_2, rA_sT34 hp_2, rA_sT35 hp_2, rA_sT36 hp_2, rA_sT37 hp_2, rA_sT40 hp_2, TPRp_sT hp_2, WNp_sT hp_2, VMp_sT hp_2, KYp_sT hp_2, PPp_sT hp_2, WFp_sT hp_2, CCp_sT hp_2, rNMp_sT2, PNp_sT2, rNMp_sT5, PNp_sT5, rk_n0 hp_2, Ks274]); (all_goals (repeat' (first | with_reducible intro _ | with_reducible apply And.intro | with_reducible refine Exists.intro gs324 ?_ | with_reducible refine Im.and ?_ ?_))); all_goals (first | assumption | trivial | ((with_reducible refine Im.i fun hf_ => ?_); first | exact (A324 hf_) | exact (Gu1276 hf_) | exact (Ku1275 hf_) | exact (Ou1277 hf_).cst | exact (Lu1278 hf_) | exact ok1.i | (exact LI.z (fun h => absurd h (by decide))) | (exact absurd hf_ (by omega)) | omega) | (unfold NBP; (try simp only [reduceIte, and_true, true_and, and_false, false_and, and_self, Nat.reduceEqDiff, fz_sA, rF_sA, rA_sA, rR_sA, rF_sT, rR_sT, sT_sF, fz_sT, rA_sT26 hp_2, rA_sT27 hp_2, rA_sT34 hp_2, rA_sT35 hp_2, rA_sT36 hp_2, rA_sT37 hp_2, rA_sT40 hp_2, TPRp_sT hp_2, WNp_sT hp_2, VMp_sT hp_2, KYp_sT hp_2, PPp_sT hp_2, WFp_sT hp_2, CCp_sT hp_2, rNMp_sT2, PNp_sT2, rNMp_sT5, PNp_sT5, rk_n0 hp_2, Ks274]); omega) | (unfold NBQ; (try simp only [reduceIte, and_true, true_and, and_false, false_and, and_self, Nat.reduceEqDiff, fz_sA, rF_sA, rA_sA, rR_sA, rF_sT, rR_sT, sT_sF, fz_sT, rA_sT26 hp_2, rA_sT27 hp_2, rA_sT34 hp_2, rA_sT35 hp_2, rA_sT36 hp_2, rA_sT37 hp_2, rA_sT40 hp_2, TPRp_sT hp_2, WNp_sT hp_2, VMp_sT hp_2, KYp_sT hp_2, PPp_sT hp_2, WFp_sT hp_2, CCp_sT hp_2, rNMp_sT2, PNp_sT2, rNMp_sT5, PNp_sT5, rk_n0 hp_2, Ks274]); omega) | omega | (have zz_ := fz_z (by assumption); omega) | (split <;> omega) | (exact fun hf_ => L_ (by omega)) | ((repeat' split) <;> omega) | done)), ?_⟩
          intro s329 Ws329 e329_0 e329_1 e329_2 e329_3 e329_4 e329_5 e329_6 e329_7 e329_8 e329_9 e329_10 e329_11 e329_12 e329_13 e329_14 e329_15 e329_16 e329_17 e329_18 e329_19 e329_20 e329_21 e329_22 R329 q329
          have q329 := dig_blanks q329 (by (try simp only [reduceIte, and_true, true_and, and_false, false_and, and_self, Nat.reduceEqDiff, fz_sA, rF_sA, rA_sA, rR_sA, rF_sT, rR_sT, sT_sF, fz_sT, rA_sT26 hp_2, rA_sT27 hp_2, rA_sT34 hp_2, rA_sT35 hp_2, rA_sT36 hp_2, rA_sT37 hp_2, rA_sT40 hp_2, TPRp_sT hp_2, WNp_sT hp_2, VMp_sT hp_2, KYp_sT hp_2, PPp_sT hp_2, WFp_sT hp_2, CCp_sT hp_2, rNMp_sT2, PNp_sT2, rNMp_sT5, PNp_sT5, rk_n0 hp_2, Ks274]); omega)
          obtain ⟨q329_1, q329_2⟩ := q329
          (try simp only [reduceIte, and_true, true_and, and_false, false_and, and_self, Nat.reduceEqDiff, fz_sA, rF_sA, rA_sA, rR_sA, rF_sT, rR_sT, sT_sF, fz_sT, rA_sT26 hp_2, rA_sT27 hp_2, rA_sT34 hp_2, rA_sT35 hp_2, rA_sT36 hp_2, rA_sT37 hp_2, rA_sT40 hp_2, TPRp_sT hp_2, WNp_sT hp_2, VMp_sT hp_2, KYp_sT hp_2, PPp_sT hp_2, WFp_sT hp_2, CCp_sT hp_2, rNMp_sT2, PNp_sT2, rNMp_sT5, PNp_sT5, rk_n0 hp_2, Ks274, NBP, NBQ] at q329_1 q329_2 e329_0 e329_1 e329_2 e329_3 e329_4 e329_5 e329_6 e329_7 e329_8 e329_9 e329_10 e329_11 e329_12 e329_13 e329_14 e329_15 e329_16 e329_17 e329_18 e329_19 e329_20 e329_21 e329_22 R329)
          have Ks329 : rR s329 7 = rR σ 7 := by first | assumption | ((try simp only [rR_sF, rR_sA, rR_sT, rR_sL] at e329_0 e329_1 e329_2 e329_3 e329_4 e329_5 e329_6 e329_7 e329_8 e329_9 e329_10 e329_11 e329_12 e329_13 e329_14 e329_15 e329_16 e329_17 e329_18 e329_19 e329_20 e329_21 e329_22 R329); omega)
          have zr329 := fz_rng s329
          have zc329 : fz s329 = 0 → fz s274 = 0 := fun hf => by omega
          have A329 : Im (fz s329 = 0) (RG σ s329 (rR σ 7) x1) := fun hf => RG.trk hp_2 (A324 (zc329 hf)) R329 (Or.inr (Or.inl rfl))
          have Ou1279 : Im (fz s329 = 0) _ := fun hf => OP.gk0 (Ou1277 (zc329 hf)) (GK.up (g := gs324) (N := rF (sT (sT s274 (rR σ 7) 2 v217 v274) (rR σ 7) 5 y148_2 v217) (rR σ 7) 7) (N' := rF s329 (rR σ 7) 7) (c := 0) (by first | assumption | omega | (simp only [rF_sT, rF_sA]; omega)))
          have Lu1280 : Im (fz s329 = 0) _ := fun hf => LI.gk0 hp_2 (Lu1278 (zc329 hf)) (Ou1277 (zc329 hf)) R329 (GK.up (g := gs324) (N := rF (sT (sT s274 (rR σ 7) 2 v217 v274) (rR σ 7) 5 y148_2 v217) (rR σ 7) 7) (N' := rF s329 (rR σ 7) 7) (c := 0) (by first | assumption | omega | (simp only [rF_sT, rF_sA]; omega)))
          have Ku1281 : Im (fz s329 = 0) (GK g gs324 (rF σ (rR σ 7) 7) (rF s329 (rR σ 7) 7) x1) := fun hf => GK.trans (Ku1275 (zc329 hf)) (GK.up (N := rF (sT (sT s274 (rR σ 7) 2 v217 v274) (rR σ 7) 5 y148_2 v217) (rR σ 7) 7) (N' := rF s329 (rR σ 7) 7) (c := 0) (by first | assumption | omega | (simp only [rF_sT, rF_sA]; omega))) (Or.inr (Or.inl rfl))
          have Gu1282 : Im (fz s329 = 0) (GS s329 (rR σ 7) gs324) := fun hf => GS.mv hp_2 (Gu1276 (zc329 hf)) R329 (by first | assumption | omega | (simp only [rF_sT, rF_sA]; omega)) (by first | (exact Int.le_of_eq (Eq.symm (by assumption))) | omega | (simp only [rF_sT, rF_sA]; omega))
          have rNMp_329 := e329_0 q274_2; clear e329_0
          have TPRp_329 := e329_1 TPRp_274; clear e329_1
          have WNp_329 := e329_2 q274_3; clear e329_2
          have PNp_329 := e329_3 q274_4; clear e329_3
          have CCp_329 := e329_4 CCp_274; clear e329_4
          refine ⟨(by (try simp only [pre_X14_here, Ks329]); (all_goals (repeat' (first | with_reducible intro _ | with_reducible apply And.intro | with_reducible refine Exists.intro gs324 ?_ | with_reducible refine Im.and ?_ ?_))); all_goals (first | assumption | trivial | ((with_reducible refine Im.i fun hf_ => ?_); first | exact (A329 hf_) | exact (Gu1282 hf_) | exact (Ku1281 hf_) | exact (Ou1279 hf_).cst | exact (Lu1280 hf_) | exact ok1.i | (exact LI.z (fun h => absurd h (by decide))) | (exact absurd hf_ (by omega)) | omega) | (unfold NBP; (try simp only [Ks329]); omega) | (unfold NBQ; (try simp only [Ks329]); omega) | omega | (have zz_ := fz_z (by assumption); omega) | (split <;> omega) | (exact fun hf_ => L_ (by omega)) | ((repeat' split) <;> omega) | done)), ?_⟩
          intro v333 hv333 q333
          unfold rng at hv333
          unfold post_X14_here at q333
          obtain ⟨q333_1, q333_2⟩ := q333
          (try simp only [Ks329, NBP, NBQ] at q333_1 q333_2)
          refine ⟨fun c338 => ?_, fun c338 => ?_⟩
          · exact (by (try simp only [inv_X14_readOptions_25, mu_X14_readOptions_25, Ks329]); (all_goals (repeat' (first | with_reducible intro _ | with_reducible apply And.intro | with_reducible refine Exists.intro gs324 ?_ | with_reducible refine Im.and ?_ ?_))); all_goals (first | assumption | trivial | ((with_reducible refine Im.i fun hf_ => ?_); first | exact (A329 hf_) | exact (Gu1282 hf_) | exact (Ku1281 hf_) | exact (Ou1279 hf_).cst | exact (Lu1280 hf_) | exact ok1.i | (exact LI.z (fun h => absurd h (by decide))) | (exact absurd hf_ (by omega)) | omega) | (unfold NBP; (try simp only [Ks329]); omega) | (unfold NBQ; (try simp only [Ks329]); omega) | omega | (have zz_ := fz_z (by assumption); omega) | (split <;> omega) | (exact fun hf_ => L_ (by omega)) | ((repeat' split) <;> omega) | done))
          · exact (by (try simp only [inv_X14_readOptions_25, mu_X14_readOptions_25, Ks329]); (all_goals (repeat' (first | with_reducible intro _ | with_reducible apply And.intro | with_reducible refine Exists.intro gs324 ?_ | with_reducible refine Im.and ?_ ?_))); all_goals (first | assumption | trivial | ((with_reducible refine Im.i fun hf_ => ?_); first | exact (A329 hf_) | exact (Gu1282 hf_) | exact (Ku1281 hf_) | exact (Ou1279 hf_).cst | exact (Lu1280 hf_) | exact ok1.i | (exact LI.z (fun h => absurd h (by decide))) | (exact absurd hf_ (by omega)) | omega) | (unfold NBP; (try simp only [Ks329]); omega) | (unfold NBQ; (try simp only [Ks329]); omega) | omega | (have zz_ := fz_z (by assumption); omega) | (split <;> omega) | (exact fun hf_ => L_ (by omega)) | ((repeat' split) <;> omega) | done))
        · refine ⟨(by (try simp only [reduceIte, and_true, true_and, and_false, false_and, and_self, Nat.reduceEqDiff, fz_sA, rF_sA, rA_sA, rR_sA, rF_sT, rR_sT, sT_sF, fz_sT, rA_sT26 hp_2, rA_sT27 hp_2, rA_sT34 hp_2, rA_sT35 hp_2, rA_sT36 hp_2, rA_sT37 hp_2, rA_sT40 hp_2, TPRp_sT hp_2, WNp_sT hp_2, VMp_sT hp_2, KYp_sT hp_2, PPp_sT hp_2, WFp_sT hp_2, CCp_sT hp_2, rNMp_sT2, PNp_sT2, rk_n0 hp_2, Ks274]); (all_goals (repeat' (first | with_reducible intro _ | with_reducible apply And.intro | with_reducible refine Exists.intro gs277 ?_ | with_reducible refine Im.and ?_ ?_))); all_goals (first | assumption | trivial | ((with_reducible refine Im.i fun hf_ => ?_); first | exact (A277 hf_) | exact (Gu1265 hf_) | exact (Ku1264 hf_) | exact (Ou1262 hf_).cst | exact (Lu1263 hf_) | exact (O217u1266 hf_).cst | exact (L277u1267 hf_) | exact ok1.i | (exact LI.z (fun h => absurd h (by decide))) | (exact absurd hf_ (by omega)) | omega) | (unfold NBP; (try simp only [reduceIte, and_true, true_and, and_false, false_and, and_self, Nat.reduceEqDiff, fz_sA, rF_sA, rA_sA, rR_sA, rF_sT, rR_sT, sT_sF, fz_sT, rA_sT26 hp_2, rA_sT27 hp_2, rA_sT34 hp_2, rA_sT35 hp_2, rA_sT36 hp_2, rA_sT37 hp_2, rA_sT40 hp_2, TPRp_sT hp_2, WNp_sT hp_2, VMp_sT hp_2, KYp_sT hp_2, PPp_sT hp_2, WFp_sT hp_2, CCp_sT hp_2, rNMp_sT2, PNp_sT2, rk_n0 hp_2, Ks274]); omega) | (unfold NBQ; (try simp only [reduceIte, and_true, true_and, and_false, false_and, and_self, Nat.reduceEqDiff, fz_sA, rF_sA, rA_sA, rR_sA, rF_sT, rR_sT, sT_sF, fz_sT, rA_sT26 hp_2, rA_sT27 hp_2, rA_sT34 hp_2, rA_sT35 hp_2, rA_sT36 hp_2, rA_sT37 hp_2, rA_sT40 hp_2, TPRp_sT hp_2, WNp_sT hp_2, VMp_sT hp_2, KYp_sT hp_2, PPp_sT hp_2, WFp_sT hp_2, CCp_sT hp_2, rNMp_sT2, PNp_sT2, rk_n0 hp_2, Ks274]); omega) | omega | (have zz_ := fz_z (by assumption); omega) | (split <;> omega) | (exact fun hf_ => L_ (by omega)) | ((repeat' split) <;> omega) | done)), ?_⟩
          obtain ⟨gu1283, Xu1284⟩ := EC_53 (P := fz s274 = 0) (rF s274 0 29) Gu1265 O217u1266 (fun hf => by omega)
          have Ou1285 : Im (fz s274 = 0) _ := fun hf => OP.kc (Ou1262 hf) (Xu1284 hf).2.2 (by omega)
          have Lu1286 : Im (fz s274 = 0) _ := fun hf => LI.kc (Lu1263 hf) (Xu1284 hf).2.2
          have O217u1287 : Im (fz s274 = 0) _ := fun hf => (Xu1284 hf).2.1
          have Ku1288 : Im (fz s274 = 0) (GK g gu1283 (rF σ (rR σ 7) 7) (rF s274 (rR σ 7) 7) x1) := fun hf => GK.kc (Ku1264 hf) (Xu1284 hf).2.2 (by omega)
          have Gu1289 : Im (fz s274 = 0) _ := fun hf => (Xu1284 hf).1
          have A310 : Im (fz s274 = 0) (RG σ (sT (sT s274 (rR σ 7) 2 v217 v274) (rR σ 7) 2 x1 v217) (rR σ 7) x1) := fun hf => RG.tst (f := 2) (i := x1) (x := v217) hp_2 (A277 hf) (by decide) (by omega)
          obtain ⟨gs310, Xs310⟩ := EH_2_4 (P := fz s274 = 0) hp_2 Gu1289 Ou1285 O217u1287 (fun _ h => h) (fun hf => by omega)
          have Ku1290 : Im (fz s274 = 0) (GK g gs310 (rF σ (rR σ 7) 7) (rF s274 (rR σ 7) 7) x1) := fun hf => GK.ks (Ku1288 hf) (Xs310 hf).2.2.2.1 (by omega) (by omega)
          have Gu1291 : Im (fz s274 = 0) _ := fun hf => (Xs310 hf).1
          have Ou1292 : Im (fz s274 = 0) _ := fun hf => (Xs310 hf).2.1
          have Lu1293 : Im (fz s274 = 0) _ := fun hf => (Xs310 hf).2.2.1
          refine ⟨(by (try simp only [pre_X14_blanks, reduceIte, and_true, true_and, and_false, false_and, and_self, Nat.reduceEqDiff, fz_sA, rF_sA, rA_sA, rR_sA, rF_sT, rR_sT, sT_sF, fz_sT, rA_sT26 hp_2, rA_sT27 hp_2, rA_sT34 hp_2, rA_sT35 hp_2, rA_sT36 hp_2, rA_sT37 hp_2, rA_sT40 hp_2, TPRp_sT hp_2, WNp_sT hp_2, VMp_sT hp_2, KYp_sT hp_2, PPp_sT hp_2, WFp_sT hp_2, CCp_sT hp_2, rNMp_sT2, PNp_sT2, rk_n0 hp_2, Ks274]); (all_goals (repeat' (first | with_reducible intro _ | with_reducible apply And.intro | with_reducible refine Exists.intro gs310 ?_ | with_reducible refine Im.and ?_ ?_))); all_goals (first | assumption | trivial | ((with_reducible refine Im.i fun hf_ => ?_); first | exact (A310 hf_) | exact (Gu1291 hf_) | exact (Ku1290 hf_) | exact (Ou1292 hf_).cst | exact (Lu1293 hf_) | exact ok1.i | (exact LI.z (fun h => absurd h (by decide))) | (exact absurd hf_ (by omega)) | omega) | (unfold NBP; (try simp only [reduceIte, and_true, true_and, and_false, false_and, and_self, Nat.reduceEqDiff, fz_sA, rF_sA, rA_sA, rR_sA, rF_sT, rR_sT, sT_sF, fz_sT, rA_sT26 hp_2, rA_sT27 hp_2, rA_sT34 hp_2, rA_sT35 hp_2, rA_sT36 hp_2, rA_sT37 hp_2, rA_sT40 hp_2, TPRp_sT hp_2, WNp_sT hp_2, VMp_sT hp_2, KYp_sT hp_2, PPp_sT hp_2, WFp_sT hp_2, CCp_sT hp_2, rNMp_sT2, PNp_sT2, rk_n0 hp_2, Ks274]); omega) | (unfold NBQ; (try simp only [reduceIte, and_true, true_and, and_false, false_and, and_self, Nat.reduceEqDiff, fz_sA, rF_sA, rA_sA, rR_sA, rF_sT, rR_sT, sT_sF, fz_sT, rA_sT26 hp_2, rA_sT27 hp_2, rA_sT34 hp_2, rA_sT35 hp_2, rA_sT36 hp_2, rA_sT37 hp_2, rA_sT40 hp_2, TPRp_sT hp_2, WNp_sT hp_2, VMp_sT hp_2, KYp_sT hp_2, PPp_sT hp_2, WFp_sT hp_2, CCp_sT hp_2, rNMp_sT2, PNp_sT2, rk_n0 hp_2, Ks274]); omega) | omega | (have zz_ := fz_z (by assumption); omega) | (split <;> omega) | (exact fun hf_ => L_ (by omega)) | ((repeat' split) <;> omega) | done)), ?_⟩
          intro s329 Ws329 e329_0 e329_1 e329_2 e329_3 e329_4 e329_5 e329_6 e329_7 e329_8 e329_9 e329_10 e329_11 e329_12 e329_13 e329_14 e329_15 e329_16 e329_17 e329_18 e329_19 e329_20 e329_21 e329_22 R329 q329
          have q329 := dig_blanks q329 (by (try simp only [reduceIte, and_true, true_and, and_false, false_and, and_self, Nat.reduceEqDiff, fz_sA, rF_sA, rA_sA, rR_sA, rF_sT, rR_sT, sT_sF, fz_sT, rA_sT26 hp_2, rA_sT27 hp_2, rA_sT34 hp_2, rA_sT35 hp_2, rA_sT36 hp_2, rA_sT37 hp_2, rA_sT40 hp_2, TPRp_sT hp_2, WNp_sT hp_2, VMp_sT hp_2, KYp_sT hp_2, PPp_sT hp_2, WFp_sT hp_2, CCp_sT hp_2, rNMp_sT2, PNp_sT2, rk_n0 hp_2, Ks274]); omega)
          obtain ⟨q329_1, q329_2⟩ := q329
          (try simp only [reduceIte, and_true, true_and, and_false, false_and, and_self, Nat.reduceEqDiff, fz_sA, rF_sA, rA_sA, rR_sA, rF_sT, rR_sT, sT_sF, fz_sT, rA_sT26 hp_2, rA_sT27 hp_2, rA_sT34 hp_2, rA_sT35 hp_2, rA_sT36 hp_2, rA_sT37 hp_2, rA_sT40 hp_2, TPRp_sT hp_2, WNp_sT hp_2, VMp_sT hp_2, KYp_sT hp_2, PPp_sT hp_2, WFp_sT hp_2, CCp_sT hp_2, rNMp_sT2, PNp_sT2, rk_n0 hp_2, Ks274, NBP, NBQ] at q329_1 q329_2 e329_0 e329_1 e329_2 e329_3 e329_4 e329_5 e329_6 e329_7 e329_8 e329_9 e329_10 e329_11 e329_12 e329_13 e329_14 e329_15 e329_16 e329_17 e329_18 e329_19 e329_20 e329_21 e329_22 R329)
          have Ks329 : rR s329 7 = rR σ 7 := by first | assumption | ((try simp only [rR_sF, rR_sA, rR_sT, rR_sL] at e329_0 e329_1 e329_2 e329_3 e329_4 e329_5 e329_6 e329_7 e329_8 e329_9 e329_10 e329_11 e329_12 e329_13 e329_14 e329_15 e329_16 e329_17 e329_18 e329_19 e329_20 e329_21 e329_22 R329); omega)
          have zr329 := fz_rng s329
          have zc329 : fz s329 = 0 → fz s274 = 0 := fun hf => by omega
          have A329 : Im (fz s329 = 0) (RG σ s329 (rR σ 7) x1) := fun hf => RG.trk hp_2 (A310 (zc329 hf)) R329 (Or.inr (Or.inl rfl))
          have Ou1294 : Im (fz s329 = 0) _ := fun hf => OP.gk0 (Ou1292 (zc329 hf)) (GK.up (g := gs310) (N := rF (sT (sT s274 (rR σ 7) 2 v217 v274) (rR σ 7) 2 x1 v217) (rR σ 7) 7) (N' := rF s329 (rR σ 7) 7) (c := 0) (by first | assumption | omega | (simp only [rF_sT, rF_sA]; omega)))
          have Lu1295 : Im (fz s329 = 0) _ := fun hf => LI.gk0 hp_2 (Lu1293 (zc329 hf)) (Ou1292 (zc329 hf)) R329 (GK.up (g := gs310) (N := rF (sT (sT s274 (rR σ 7) 2 v217 v274) (rR σ 7) 2 x1 v217) (rR σ 7) 7) (N' := rF s329 (rR σ 7) 7) (c := 0) (by first | assumption | omega | (simp only [rF_sT, rF_sA]; omega)))
          have Ku1296 : Im (fz s329 = 0) (GK g gs310 (rF σ (rR σ 7) 7) (rF s329 (rR σ 7) 7) x1) := fun hf => GK.trans (Ku1290 (zc329 hf)) (GK.up (N := rF (sT (sT s274 (rR σ 7) 2 v217 v274) (rR σ 7) 2 x1 v217) (rR σ 7) 7) (N' := rF s329 (rR σ 7) 7) (c := 0) (by first | assumption | omega | (simp only [rF_sT, rF_sA]; omega))) (Or.inr (Or.inl rfl))
          have Gu1297 : Im (fz s329 = 0) (GS s329 (rR σ 7) gs310) := fun hf => GS.mv hp_2 (Gu1291 (zc329 hf)) R329 (by first | assumption | omega | (simp only [rF_sT, rF_sA]; omega)) (by first | (exact Int.le_of_eq (Eq.symm (by assumption))) | omega | (simp only [rF_sT, rF_sA]; omega))
          have rNMp_329 := e329_0 q274_2; clear e329_0
          have TPRp_329 := e329_1 TPRp_274; clear e329_1
          have WNp_329 := e329_2 q274_3; clear e329_2
          have PNp_329 := e329_3 q274_4; clear e329_3
          have CCp_329 := e329_4 CCp_274; clear e329_4
          refine ⟨(by (try simp only [pre_X14_here, Ks329]); (all_goals (repeat' (first | with_reducible intro _ | with_reducible apply And.intro | with_reducible refine Exists.intro gs310 ?_ | with_reducible refine Im.and ?_ ?_))); all_goals (first | assumption | trivial | ((with_reducible refine Im.i fun hf_ => ?_); first | exact (A329 hf_) | exact (Gu1297 hf_) | exact (Ku1296 hf_) | exact (Ou1294 hf_).cst | exact (Lu1295 hf_) | exact ok1.i | (exact LI.z (fun h => absurd h (by decide))) | (exact absurd hf_ (by omega)) | omega) | (unfold NBP; (try simp only [Ks329]); omega) | (unfold NBQ; (try simp only [Ks329]); omega) | omega | (have zz_ := fz_z (by assumption); omega) | (split <;> omega) | (exact fun hf_ => L_ (by omega)) | ((repeat' split) <;> omega) | done)), ?_⟩
          intro v333 hv333 q333
          unfold rng at hv333
          unfold post_X14_here at q333
          obtain ⟨q333_1, q333_2⟩ := q333
          (try simp only [Ks329, NBP, NBQ] at q333_1 q333_2)
          refine ⟨fun c338 => ?_, fun c338 => ?_⟩
          · exact (by (try simp only [inv_X14_readOptions_25, mu_X14_readOptions_25, Ks329]); (all_goals (repeat' (first | with_reducible intro _ | with_reducible apply And.intro | with_reducible refine Exists.intro gs310 ?_ | with_reducible refine Im.and ?_ ?_))); all_goals (first | assumption | trivial | ((with_reducible refine Im.i fun hf_ => ?_); first | exact (A329 hf_) | exact (Gu1297 hf_) | exact (Ku1296 hf_) | exact (Ou1294 hf_).cst | exact (Lu1295 hf_) | exact ok1.i | (exact LI.z (fun h => absurd h (by decide))) | (exact absurd hf_ (by omega)) | omega) | (unfold NBP; (try simp only [Ks329]); omega) | (unfold NBQ; (try simp only [Ks329]); omega) | omega | (have zz_ := fz_z (by assumption); omega) | (split <;> omega) | (exact fun hf_ => L_ (by omega)) | ((repeat' split) <;> omega) | done))
          · exact (by (try simp only [inv_X14_readOptions_25, mu_X14_readOptions_25, Ks329]); (all_goals (repeat' (first | with_reducible intro _ | with_reducible apply And.intro | with_reducible refine Exists.intro gs310 ?_ | with_reducible refine Im.and ?_ ?_))); all_goals (first | assumption | trivial | ((with_reducible refine Im.i fun hf_ => ?_); first | exact (A329 hf_) | exact (Gu1297 hf_) | exact (Ku1296 hf_) | exact (Ou1294 hf_).cst | exact (Lu1295 hf_) | exact ok1.i | (exact LI.z (fun h => absurd h (by decide))) | (exact absurd hf_ (by omega)) | omega) | (unfold NBP; (try simp only [Ks329]); omega) | (unfold NBQ; (try simp only [Ks329]); omega) | omega | (have zz_ := fz_z (by assumption); omega) | (split <;> omega) | (exact fun hf_ => L_ (by omega)) | ((repeat' split) <;> omega) | done))
    · have z203 := fz_n c203
      exact (by (try simp only [post_X14_readOptions, Ks148]); (all_goals (repeat' (first | with_reducible intro _ | with_reducible apply And.intro | with_reducible refine Exists.intro g148 ?_ | with_reducible refine Im.and ?_ ?_))); all_goals (first | assumption | trivial | ((with_reducible refine Im.i fun hf_ => ?_); first | exact (I148_13 hf_) | exact (G148 hf_) | exact (KA148 hf_) | exact (O148 hf_).cst | exact (L148 hf_) | exact ok1.i | (exact LI.z (fun h => absurd h (by decide))) | (exact absurd hf_ (by omega)) | omega) | (unfold NBP; (try simp only [Ks148]); omega) | (unfold NBQ; (try simp only [Ks148]); omega) | omega | (have zz_ := fz_z (by assumption); omega) | (split <;> omega) | (exact fun hf_ => L_ (by omega)) | ((repeat' split) <;> omega) | done))
  · intro hr_; unfold rng at hr_
    refine ⟨fun c157 => ?_, fun c157 => ?_⟩
    · have z157 := fz_n c157
      refine ⟨fun c203 => ?_, fun c203 => ?_⟩
      · have z203 := fz_z c203
        refine ⟨(by (try simp only [pre_X14_place, Ks148]); (all_goals (repeat' (first | with_reducible intro _ | with_reducible apply And.intro | with_reducible refine Exists.intro g148 ?_ | with_reducible refine Im.and ?_ ?_))); all_goals (first | assumption | trivial | ((with_reducible refine Im.i fun hf_ => ?_); first | exact (I148_13 hf_) | exact (G148 hf_) | exact (KA148 hf_) | exact (O148 hf_).cst | exact (L148 hf_) | exact ok1.i | (exact LI.z (fun h => absurd h (by decide))) | (exact absurd hf_ (by omega)) | omega) | (unfold NBP; (try simp only [Ks148]); omega) | (unfold NBQ; (try simp only [Ks148]); omega) | omega | (have zz_ := fz_z (by assumption); omega) | (split <;> omega) | (exact fun hf_ => L_ (by omega)) | ((repeat' split) <;> omega) | done)), ?_⟩
        intro v214 hv214 q214
        unfold rng at hv214
        unfold post_X14_place at q214
        obtain ⟨q214_1, q214_2⟩ := q214
        (try simp only [Ks148, NBP, NBQ] at q214_1 q214_2)
        refine ⟨(by (try simp only [pre_X14_node_t, Ks148]); (all_goals (repeat' (first | with_reducible intro _ | with_reducible apply And.intro | with_reducible refine Exists.intro g148 ?_ | with_reducible refine Im.and ?_ ?_))); all_goals (first | assumption | trivial | ((with_reducible refine Im.i fun hf_ => ?_); first | exact (I148_13 hf_) | exact (G148 hf_) | exact (KA148 hf_) | exact (O148 hf_).cst | exact (L148 hf_) | exact ok1.i | (exact LI.z (fun h => absurd h (by decide))) | (exact absurd hf_ (by omega)) | omega) | (unfold NBP; (try simp only [Ks148]); omega) | (unfold NBQ; (try simp only [Ks148]); omega) | omega | (have zz_ := fz_z (by assumption); omega) | (split <;> omega) | (exact fun hf_ => L_ (by omega)) | ((repeat' split) <;> omega) | done)), ?_⟩
        intro v217 s217 hv217 Ws217 e217_0 e217_1 e217_2 e217_3 e217_4 e217_5 e217_6 e217_7 e217_8 e217_9 e217_10 e217_11 e217_12 e217_13 e217_14 e217_15 e217_16 e217_17 e217_18 e217_19 e217_20 e217_21 e217_22 q217
        unfold rng at hv217
        unfold post_X14_node_t at q217
        obtain ⟨q217_1, q217_2, q217_3, q217_4, q217_5, q217_6, q217_7, q217_8, q217_9⟩ := q217
        (try simp only [Ks148, NBP, NBQ] at q217_1 q217_2 q217_3 q217_4 q217_5 q217_6 q217_7 q217_8 q217_9 e217_0 e217_1 e217_2 e217_3 e217_4 e217_5 e217_6 e217_7 e217_8 e217_9 e217_10 e217_11 e217_12 e217_13 e217_14 e217_15 e217_16 e217_17 e217_18 e217_19 e217_20 e217_21 e217_22)
        have Ks217 : rR s217 7 = rR σ 7 := by first | assumption | ((try simp only [rR_sF, rR_sA, rR_sT, rR_sL] at e217_0 e217_1 e217_2 e217_3 e217_4 e217_5 e217_6 e217_7 e217_8 e217_9 e217_10 e217_11 e217_12 e217_13 e217_14 e217_15 e217_16 e217_17 e217_18 e217_19 e217_20 e217_21 e217_22); omega)
        have zr217 := fz_rng s217
        have zc217 : fz s217 = 0 → fz s148 = 0 := fun hf => by omega
        have A217 : Im (fz s217 = 0) (RG σ s217 (rR σ 7) x1) := fun hf => RG.trk hp_2 (I148_13 (zc217 hf)) q217_3 (Or.inr (Or.inl rfl))
        obtain ⟨g217, X217⟩ := EN_53 (P := fz s217 = 0) (rF s148 0 29) (rF s148 0 31) hp_2 (fun hf => G148 (zc217 hf)) (fun hf => q217_3) q217_1 q217_2 q217_4 q217_5 q217_6 q217_9 (fun hf => by (try simp only [rF_sT, rF_sA]); (repeat' (with_reducible apply And.intro)) <;> first | trivial | omega)
        have Ou1298 : Im (fz s217 = 0) _ := fun hf => OP.gk0 (O148 (zc217 hf)) (X217 hf).2.1
        have Lu1299 : Im (fz s217 = 0) _ := fun hf => LI.gk0 hp_2 (L148 (zc217 hf)) (O148 (zc217 hf)) q217_3 (X217 hf).2.1
        have Ku1300 : Im (fz s217 = 0) (GK g g217 (rF σ (rR σ 7) 7) (rF s217 (rR σ 7) 7) x1) := fun hf => GK.gs (KA148 (zc217 hf)) (X217 hf).2.1
        have Gu1301 : Im (fz s217 = 0) _ := fun hf => (X217 hf).1
        have O217 : Im (fz s217 = 0) _ := fun hf => (X217 hf).2.2.1
        have rNMp_217 := e217_0 I148_2; clear e217_0
        have TPRp_217 := e217_1 TPRp_148; clear e217_1
        have WNp_217 := e217_2 I148_3; clear e217_2
        have PNp_217 := e217_3 I148_4; clear e217_3
        have CCp_217 := e217_4 CCp_148; clear e217_4
        intro hr_; unfold rng at hr_
        intro hr_; unfold rng at hr_
        refine ⟨(by (try simp only [pre_X14_wordEnd_t, Ks217]); (all_goals (repeat' (first | with_reducible intro _ | with_reducible apply And.intro | with_reducible refine Exists.intro g217 ?_ | with_reducible refine Im.and ?_ ?_))); all_goals (first | assumption | trivial | ((with_reducible refine Im.i fun hf_ => ?_); first | exact (A217 hf_) | exact (Gu1301 hf_) | exact (Ku1300 hf_) | exact (Ou1298 hf_).cst | exact (Lu1299 hf_) | exact (O217 hf_).cst | exact ok1.i | (exact LI.z (fun h => absurd h (by decide))) | (exact absurd hf_ (by omega)) | omega) | (unfold NBP; (try simp only [Ks217]); omega) | (unfold NBQ; (try simp only [Ks217]); omega) | omega | (have zz_ := fz_z (by assumption); omega) | (split <;> omega) | (exact fun hf_ => L_ (by omega)) | ((repeat' split) <;> omega) | done)), ?_⟩
        intro v235 hv235 q235
        unfold rng at hv235
        unfold post_X14_wordEnd_t at q235
        obtain ⟨q235_1, q235_2, q235_3, q235_4⟩ := q235
        (try simp only [Ks217, NBP, NBQ] at q235_1 q235_2 q235_3 q235_4)
        have w_ : rF s148 0 29 < v235 := q235_4 (by have := I148_12 (by omega); exact ⟨by omega, by rw [show rA s217 1026 (rF s148 0 29) = rA s148 1026 (rF s148 0 29) from (show ∀ i, rA s217 1026 i = rA s148 1026 i by assumption) _]; exact this.2⟩)
        refine ⟨(by (try simp only [pre_X14_blanks, reduceIte, and_true, true_and, and_false, false_and, and_self, Nat.reduceEqDiff, fz_sF29, rF_sF, rA_sF, rR_sF, tr_sF, rNMp_sF, PNp_sF, GS_F29, OP_F29, NR_F29, LI_F29, RG_l29, RG_r29, TPRp_sF29, WNp_sF29, VMp_sF29, KYp_sF29, PPp_sF29, WFp_sF29, CCp_sF29, rk_n0 hp_2, Ks217]); (all_goals (repeat' (first | with_reducible intro _ | with_reducible apply And.intro | with_reducible refine Exists.intro g217 ?_ | with_reducible refine Im.and ?_ ?_))); all_goals (first | assumption | trivial | ((with_reducible refine Im.i fun hf_ => ?_); first | exact (A217 hf_) | exact (Gu1301 hf_) | exact (Ku1300 hf_) | exact (Ou1298 hf_).cst | exact (Lu1299 hf_) | exact (O217 hf_).cst | exact ok1.i | (exact LI.z (fun h => absurd h (by decide))) | (exact absurd hf_ (by omega)) | omega) | (unfold NBP; (try simp only [reduceIte, and_true, true_and, and_false, false_and, and_self, Nat.reduceEqDiff, fz_sF29, rF_sF, rA_sF, rR_sF, tr_sF, rNMp_sF, PNp_sF, GS_F29, OP_F29, NR_F29, LI_F29, RG_l29, RG_r29, TPRp_sF29, WNp_sF29, VMp_sF29, KYp_sF29, PPp_sF29, WFp_sF29, CCp_sF29, rk_n0 hp_2, Ks217]); omega) | (unfold NBQ; (try simp only [reduceIte, and_true, true_and, and_false, false_and, and_self, Nat.reduceEqDiff, fz_sF29, rF_sF, rA_sF, rR_sF, tr_sF, rNMp_sF, PNp_sF, GS_F29, OP_F29, NR_F29, LI_F29, RG_l29, RG_r29, TPRp_sF29, WNp_sF29, VMp_sF29, KYp_sF29, PPp_sF29, WFp_sF29, CCp_sF29, rk_n0 hp_2, Ks217]); omega) | omega | (have zz_ := fz_z (by assumption); omega) | (split <;> omega) | (exact fun hf_ => L_ (by omega)) | ((repeat' split) <;> omega) | done)), ?_⟩
        intro s242 Ws242 e242_0 e242_1 e242_2 e242_3 e242_4 e242_5 e242_6 e242_7 e242_8 e242_9 e242_10 e242_11 e242_12 e242_13 e242_14 e242_15 e242_16 e242_17 e242_18 e242_19 e242_20 e242_21 e242_22 R242 q242
        have q242 := dig_blanks q242 (by (try simp only [reduceIte, and_true, true_and, and_false, false_and, and_self, Nat.reduceEqDiff, fz_sF29, rF_sF, rA_sF, rR_sF, tr_sF, rNMp_sF, PNp_sF, GS_F29, OP_F29, NR_F29, LI_F29, RG_l29, RG_r29, TPRp_sF29, WNp_sF29, VMp_sF29, KYp_sF29, PPp_sF29, WFp_sF29, CCp_sF29, rk_n0 hp_2, Ks217]); omega)
        obtain ⟨q242_1, q242_2⟩ := q242
        (try simp only [reduceIte, and_true, true_and, and_false, false_and, and_self, Nat.reduceEqDiff, fz_sF29, rF_sF, rA_sF, rR_sF, tr_sF, rNMp_sF, PNp_sF, GS_F29, OP_F29, NR_F29, LI_F29, RG_l29, RG_r29, TPRp_sF29, WNp_sF29, VMp_sF29, KYp_sF29, PPp_sF29, WFp_sF29, CCp_sF29, rk_n0 hp_2, Ks217, NBP, NBQ] at q242_1 q242_2 e242_0 e242_1 e242_2 e242_3 e242_4 e242_5 e242_6 e242_7 e242_8 e242_9 e242_10 e242_11 e242_12 e242_13 e242_14 e242_15 e242_16 e242_17 e242_18 e242_19 e242_20 e242_21 e242_22 R242)
        have Ks242 : rR s242 7 = rR σ 7 := by first | assumption | ((try simp only [rR_sF, rR_sA, rR_sT, rR_sL] at e242_0 e242_1 e242_2 e242_3 e242_4 e242_5 e242_6 e242_7 e242_8 e242_9 e242_10 e242_11 e242_12 e242_13 e242_14 e242_15 e242_16 e242_17 e242_18 e242_19 e242_20 e242_21 e242_22 R242); omega)
        have zr242 := fz_rng s242
        have zc242 : fz s242 = 0 → fz s217 = 0 := fun hf => by omega
        have A242 : Im (fz s242 = 0) (RG σ s242 (rR σ 7) x1) := fun hf => RG.trk hp_2 (A217 (zc242 hf)) R242 (Or.inr (Or.inl rfl))
        have Ou1302 : Im (fz s242 = 0) _ := fun hf => OP.gk0 (Ou1298 (zc242 hf)) (GK.up (g := g217) (N := rF s217 (rR σ 7) 7) (N' := rF s242 (rR σ 7) 7) (c := 0) (by first | assumption | omega | (simp only [rF_sT, rF_sA]; omega)))
        have Lu1303 : Im (fz s242 = 0) _ := fun hf => LI.gk0 hp_2 (Lu1299 (zc242 hf)) (Ou1298 (zc242 hf)) R242 (GK.up (g := g217) (N := rF s217 (rR σ 7) 7) (N' := rF s242 (rR σ 7) 7) (c := 0) (by first | assumption | omega | (simp only [rF_sT, rF_sA]; omega)))
        have O217u1304 : Im (fz s242 = 0) _ := fun hf => OP.gk0 (O217 (zc242 hf)) (GK.up (g := g217) (N := rF s217 (rR σ 7) 7) (N' := rF s242 (rR σ 7) 7) (c := 0) (by first | assumption | omega | (simp only [rF_sT, rF_sA]; omega)))
        have Ku1305 : Im (fz s242 = 0) (GK g g217 (rF σ (rR σ 7) 7) (rF s242 (rR σ 7) 7) x1) := fun hf => GK.trans (Ku1300 (zc242 hf)) (GK.up (N := rF s217 (rR σ 7) 7) (N' := rF s242 (rR σ 7) 7) (c := 0) (by first | assumption | omega | (simp only [rF_sT, rF_sA]; omega))) (Or.inr (Or.inl rfl))
        have Gu1306 : Im (fz s242 = 0) (GS s242 (rR σ 7) g217) := fun hf => GS.mv hp_2 (Gu1301 (zc242 hf)) R242 (by first | assumption | omega | (simp only [rF_sT, rF_sA]; omega)) (by first | (exact Int.le_of_eq (Eq.symm (by assumption))) | omega | (simp only [rF_sT, rF_sA]; omega))
        have rNMp_242 := e242_0 rNMp_217; clear e242_0
        have TPRp_242 := e242_1 TPRp_217; clear e242_1
        have WNp_242 := e242_2 WNp_217; clear e242_2
        have PNp_242 := e242_3 PNp_217; clear e242_3
        have CCp_242 := e242_4 CCp_217; clear e242_4
        refine ⟨(by (try simp only [pre_X14_here, Ks242]); (all_goals (repeat' (first | with_reducible intro _ | with_reducible apply And.intro | with_reducible refine Exists.intro g217 ?_ | with_reducible refine Im.and ?_ ?_))); all_goals (first | assumption | trivial | ((with_reducible refine Im.i fun hf_ => ?_); first | exact (A242 hf_) | exact (Gu1306 hf_) | exact (Ku1305 hf_) | exact (Ou1302 hf_).cst | exact (Lu1303 hf_) | exact (O217u1304 hf_).cst | exact ok1.i | (exact LI.z (fun h => absurd h (by decide))) | (exact absurd hf_ (by omega)) | omega) | (unfold NBP; (try simp only [Ks242]); omega) | (unfold NBQ; (try simp only [Ks242]); omega) | omega | (have zz_ := fz_z (by assumption); omega) | (split <;> omega) | (exact fun hf_ => L_ (by omega)) | ((repeat' split) <;> omega) | done)), ?_⟩
        intro v246 hv246 q246
        unfold rng at hv246
        unfold post_X14_here at q246
        obtain ⟨q246_1, q246_2⟩ := q246
        (try simp only [Ks242, NBP, NBQ] at q246_1 q246_2)
        refine ⟨fun c251 => ?_, fun c251 => ?_⟩
        · refine ⟨fun c284 => ?_, fun c284 => ?_⟩
          · refine ⟨fun c297 => ?_, fun c297 => ?_⟩
            · refine ⟨(by (try simp only [Ks242]); (all_goals (repeat' (first | with_reducible intro _ | with_reducible apply And.intro | with_reducible refine Exists.intro g217 ?_ | with_reducible refine Im.and ?_ ?_))); all_goals (first | assumption | trivial | ((with_reducible refine Im.i fun hf_ => ?_); first | exact (A242 hf_) | exact (Gu1306 hf_) | exact (Ku1305 hf_) | exact (Ou1302 hf_).cst | exact (Lu1303 hf_) | exact (O217u1304 hf_).cst | exact ok1.i | (exact LI.z (fun h => absurd h (by decide))) | (exact absurd hf_ (by omega)) | omega) | (unfold NBP; (try simp only [Ks242]); omega) | (unfold NBQ; (try simp only [Ks242]); omega) | omega | (have zz_ := fz_z (by assumption); omega) | (split <;> omega) | (exact fun hf_ => L_ (by omega)) | ((repeat' split) <;> omega) | done)), ?_⟩
              obtain ⟨gu1307, Xu1308⟩ := EC_53 (P := fz s242 = 0) (rF s242 0 29) Gu1306 O217u1304 (fun hf => by omega)
              have Ou1309 : Im (fz s242 = 0) _ := fun hf => OP.kc (Ou1302 hf) (Xu1308 hf).2.2 (by omega)
              have Lu1310 : Im (fz s242 = 0) _ := fun hf => LI.kc (Lu1303 hf) (Xu1308 hf).2.2
              have O217u1311 : Im (fz s242 = 0) _ := fun hf => (Xu1308 hf).2.1
              have Ku1312 : Im (fz s242 = 0) (GK g gu1307 (rF σ (rR σ 7) 7) (rF s242 (rR σ 7) 7) x1) := fun hf => GK.kc (Ku1305 hf) (Xu1308 hf).2.2 (by omega)
              have Gu1313 : Im (fz s242 = 0) _ := fun hf => (Xu1308 hf).1
              have A324 : Im (fz s242 = 0) (RG σ (sT s242 (rR σ 7) 5 y148_2 v217) (rR σ 7) x1) := fun hf => RG.tst (f := 5) (i := y148_2) (x := v217) hp_2 (A242 hf) (by decide) (by omega)
              obtain ⟨gs324, Xs324⟩ := EA_2_4 (P := fz s242 = 0) hp_2 Gu1313 Ou1309 Lu1310 O217u1311 (fun _ h => h) (fun hf => by omega)
              have Ku1314 : Im (fz s242 = 0) (GK g gs324 (rF σ (rR σ 7) 7) (rF s242 (rR σ 7) 7) x1) := fun hf => GK.ks (Ku1312 hf) (Xs324 hf).2.2.2.1 (by omega) (by omega)
              have Gu1315 : Im (fz s242 = 0) _ := fun hf => (Xs324 hf).1
              have Ou1316 : Im (fz s242 = 0) _ := fun hf => (Xs324 hf).2.1
              have Lu1317 : Im (fz s242 = 0) _ := fun hf => (Xs324 hf).2.2.1
              refine ⟨(by (try simp only [pre_X14_blanks, reduceIte, and_true, true_and, and_false, false_and, and_self, Nat.reduceEqDiff, fz_sA, rF_sA, rA_sA, rR_sA, rF_sT, rR_sT, sT_sF, fz_sT, rA_sT26 hp_2, rA_sT27 hp_2, rA_sT34 hp_2, rA_sT35 hp_2, rA_sT36 hp_2, rA_sT37 hp_2, rA_sT40 hp_2, TPRp_sT hp_2, WNp_sT hp_2, VMp_sT hp_2, KYp_sT hp_2, PPp_sT hp_2, WFp_sT hp_2, CCp_sT hp_2, rNMp_sT5, PNp_sT5, rk_n0 hp_2, Ks242]); (all_goals (repeat' (first | with_reducible intro _ | with_reducible apply And.intro | with_reducible refine Exists.intro gs324 ?_ | with_reducible refine Im.and ?_ ?_))); all_goals (first | assumption | trivial | ((with_reducible refine Im.i fun hf_ => ?_); first | exact (A324 hf_) | exact (Gu1315 hf_) | exact (Ku1314 hf_) | exact (Ou1316 hf_).cst | exact (Lu1317 hf_) | exact ok1.i | (exact LI.z (fun h => absurd h (by decide))) | (exact absurd hf_ (by omega)) | omega) | (unfold NBP; (try simp only [reduceIte, and_true, true_and, and_false, false_and, and_self, Nat.reduceEqDiff, fz_sA, rF_sA, rA_sA, rR_sA, rF_sT, rR_sT, sT_sF, fz_sT, rA_sT26 hp_2, rA_sT27 hp_2, rA_sT34 hp_2, rA_sT35 hp_2, rA_sT36 hp_2, rA_sT37 hp_2, rA_sT40 hp_2, TPRp_sT hp_2, WNp_sT hp_2, VMp_sT hp_2, KYp_sT hp_2, PPp_sT hp_2, WFp_sT hp_2, CCp_sT hp_2, rNMp_sT5, PNp_sT5, rk_n0 hp_2, Ks242]); omega) | (unfold NBQ; (try simp only [reduceIte, and_true, true_and, and_false, false_and, and_self, Nat.reduceEqDiff, fz_sA, rF_sA, rA_sA, rR_sA, rF_sT, rR_sT, sT_sF, fz_sT, rA_sT26 hp_2, rA_sT27 hp_2, rA_sT34 hp_2, rA_sT35 hp_2, rA_sT36 hp_2, rA_sT37 hp_2, rA_sT40 hp_2, TPRp_sT hp_2, WNp_sT hp_2, VMp_sT hp_2, KYp_sT hp_2, PPp_sT hp_2, WFp_sT hp_2, CCp_sT hp_2, rNMp_sT5, PNp_sT5, rk_n0 hp_2, Ks242]); omega) | omega | (have zz_ := fz_z (by assumption); omega) | (split <;> omega) | (exact fun hf_ => L_ (by omega)) | ((repeat' split) <;> omega) | done)), ?_⟩
              intro s329 Ws329 e329_0 e329_1 e329_2 e329_3 e329_4 e329_5 e329_6 e329_7 e329_8 e329_9 e329_10 e329_11 e329_12 e329_13 e329_14 e329_15 e329_16 e329_17 e329_18 e329_19 e329_20 e329_21 e329_22 R329 q329
              have q329 := dig_blanks q329 (by (try simp only [reduceIte, and_true, true_and, and_false, false_and, and_self, Nat.reduceEqDiff, fz_sA, rF_sA, rA_sA, rR_sA, rF_sT, rR_sT, sT_sF, fz_sT, rA_sT26 hp_2, rA_sT27 hp_2, rA_sT34 hp_2, rA_sT35 hp_2, rA_sT36 hp_2, rA_sT37 hp_2, rA_sT40 hp_2, TPRp_sT hp_2, WNp_sT hp_2, VMp_sT hp_2, KYp_sT hp_2, PPp_sT hp_2, WFp_sT hp_2, CCp_sT hp_2, rNMp_sT5, PNp_sT5, rk_n0 hp_2, Ks242]); omega)
              obtain ⟨q329_1, q329_2⟩ := q329
              (try simp only [reduceIte, and_true, true_and, and_false, false_and, and_self, Nat.reduceEqDiff, fz_sA, rF_sA, rA_sA, rR_sA, rF_sT, rR_sT, sT_sF, fz_sT, rA_sT26 hp_2, rA_sT27 hp_2, rA_sT34 hp_2, rA_sT35 hp_2, rA_sT36 hp_2, rA_sT37 hp_2, rA_sT40 hp_2, TPRp_sT hp_2, WNp_sT hp_2, VMp_sT hp_2, KYp_sT hp_2, PPp_sT hp_2, WFp_sT hp_2, CCp_sT hp_2, rNMp_sT5, PNp_sT5, rk_n0 hp_2, Ks242, NBP, NBQ] at q329_1 q329_2 e329_0 e329_1 e329_2 e329_3 e329_4 e329_5 e329_6 e329_7 e329_8 e329_9 e329_10 e329_11 e329_12 e329_13 e329_14 e329_15 e329_16 e329_17 e329_18 e329_19 e329_20 e329_21 e329_22 R329)
              have Ks329 : rR s329 7 = rR σ 7 := by first | assumption | ((try simp only [rR_sF, rR_sA, rR_sT, rR_sL] at e329_0 e329_1 e329_2 e329_3 e329_4 e329_5 e329_6 e329_7 e329_8 e329_9 e329_10 e329_11 e329_12 e329_13 e329_14 e329_15 e329_16 e329_17 e329_18 e329_19 e329_20 e329_21 e329_22 R329); omega)
              have zr329 := fz_rng s329
              have zc329 : fz s329 = 0 → fz s242 = 0 := fun hf => by omega
              have A329 : Im (fz s329 = 0) (RG σ s329 (rR σ 7) x1) := fun hf => RG.trk hp_2 (A324 (zc329 hf)) R329 (Or.inr (Or.inl rfl))
              have Ou1318 : Im (fz s329 = 0) _ := fun hf => OP.gk0 (Ou1316 (zc329 hf)) (GK.up (g := gs324) (N := rF (sT s242 (rR σ 7) 5 y148_2 v217) (rR σ 7) 7) (N' := rF s329 (rR σ 7) 7) (c := 0) (by first | assumption | omega | (simp only [rF_sT, rF_sA]; omega)))
              have Lu1319 : Im (fz s329 = 0) _ := fun hf => LI.gk0 hp_2 (Lu1317 (zc329 hf)) (Ou1316 (zc329 hf)) R329 (GK.up (g := gs324) (N := rF (sT s242 (rR σ 7) 5 y148_2 v217) (rR σ 7) 7) (N' := rF s329 (rR σ 7) 7) (c := 0) (by first | assumption | omega | (simp only [rF_sT, rF_sA]; omega)))
              have Ku1320 : Im (fz s329 = 0) (GK g gs324 (rF σ (rR σ 7) 7) (rF s329 (rR σ 7) 7) x1) := fun hf => GK.trans (Ku1314 (zc329 hf)) (GK.up (N := rF (sT s242 (rR σ 7) 5 y148_2 v217) (rR σ 7) 7) (N' := rF s329 (rR σ 7) 7) (c := 0) (by first | assumption | omega | (simp only [rF_sT, rF_sA]; omega))) (Or.inr (Or.inl rfl))
              have Gu1321 : Im (fz s329 = 0) (GS s329 (rR σ 7) gs324) := fun hf => GS.mv hp_2 (Gu1315 (zc329 hf)) R329 (by first | assumption | omega | (simp only [rF_sT, rF_sA]; omega)) (by first | (exact Int.le_of_eq (Eq.symm (by assumption))) | omega | (simp only [rF_sT, rF_sA]; omega))
              have rNMp_329 := e329_0 rNMp_242; clear e329_0
              have TPRp_329 := e329_1 TPRp_242; clear e329_1
              have WNp_329 := e329_2 WNp_242; clear e329_2
              have PNp_329 := e329_3 PNp_242; clear e329_3
              have CCp_329 := e329_4 CCp_242; clear e329_4
              refine ⟨(by (try simp only [pre_X14_here, Ks329]); (all_goals (repeat' (first | with_reducible intro _ | with_reducible apply And.intro | with_reducible refine Exists.intro gs324 ?_ | with_reducible refine Im.and ?_ ?_))); all_goals (first | assumption | trivial | ((with_reducible refine Im.i fun hf_ => ?_); first | exact (A329 hf_) | exact (Gu1321 hf_) | exact (Ku1320 hf_) | exact (Ou1318 hf_).cst | exact (Lu1319 hf_) | exact ok1.i | (exact LI.z (fun h => absurd h (by decide))) | (exact absurd hf_ (by omega)) | omega) | (unfold NBP; (try simp only [Ks329]); omega) | (unfold NBQ; (try simp only [Ks329]); omega) | omega | (have zz_ := fz_z (by assumption); omega) | (split <;> omega) | (exact fun hf_ => L_ (by omega)) | ((repeat' split) <;> omega) | done)), ?_⟩
              intro v333 hv333 q333
              unfold rng at hv333
              unfold post_X14_here at q333
              obtain ⟨q333_1, q333_2⟩ := q333
              (try simp only [Ks329, NBP, NBQ] at q333_1 q333_2)
              refine ⟨fun c338 => ?_, fun c338 => ?_⟩
              · exact (by (try simp only [inv_X14_readOptions_25, mu_X14_readOptions_25, Ks329]); (all_goals (repeat' (first | with_reducible intro _ | with_reducible apply And.intro | with_reducible refine Exists.intro gs324 ?_ | with_reducible refine Im.and ?_ ?_))); all_goals (first | assumption | trivial | ((with_reducible refine Im.i fun hf_ => ?_); first | exact (A329 hf_) | exact (Gu1321 hf_) | exact (Ku1320 hf_) | exact (Ou1318 hf_).cst | exact (Lu1319 hf_) | exact ok1.i | (exact LI.z (fun h => absurd h (by decide))) | (exact absurd hf_ (by omega)) | omega) | (unfold NBP; (try simp only [Ks329]); omega) | (unfold NBQ; (try simp only [Ks329]); omega) | omega | (have zz_ := fz_z (by assumption); omega) | (split <;> omega) | (exact fun hf_ => L_ (by omega)) | ((repeat' split) <;> omega) | done))
              · exact (by (try simp only [inv_X14_readOptions_25, mu_X14_readOptions_25, Ks329]); (all_goals (repeat' (first | with_reducible intro _ | with_reducible apply And.intro | with_reducible refine Exists.intro gs324 ?_ | with_reducible refine Im.and ?_ ?_))); all_goals (first | assumption | trivial | ((with_reducible refine Im.i fun hf_ => ?_); first | exact (A329 hf_) | exact (Gu1321 hf_) | exact (Ku1320 hf_) | exact (Ou1318 hf_).cst | exact (Lu1319 hf_) | exact ok1.i | (exact LI.z (fun h => absurd h (by decide))) | (exact absurd hf_ (by omega)) | omega) | (unfold NBP; (try simp only [Ks329]); omega) | (unfold NBQ; (try simp only [Ks329]); omega) | omega | (have zz_ := fz_z (by assumption); omega) | (split <;> omega) | (exact fun hf_ => L_ (by omega)) | ((repeat' split) <;> omega) | done))
            · refine ⟨(by (try simp only [Ks242]); (all_goals (repeat' (first | with_reducible intro _ | with_reducible apply And.intro | with_reducible refine Exists.intro g217 ?_ | with_reducible refine Im.and ?_ ?_))); all_goals (first | assumption | trivial | ((with_reducible refine Im.i fun hf_ => ?_); first | exact (A242 hf_) | exact (Gu1306 hf_) | exact (Ku1305 hf_) | exact (Ou1302 hf_).cst | exact (Lu1303 hf_) | exact (O217u1304 hf_).cst | exact ok1.i | (exact LI.z (fun h => absurd h (by decide))) | (exact absurd hf_ (by omega)) | omega) | (unfold NBP; (try simp only [Ks242]); omega) | (unfold NBQ; (try simp only [Ks242]); omega) | omega | (have zz_ := fz_z (by assumption); omega) | (split <;> omega) | (exact fun hf_ => L_ (by omega)) | ((repeat' split) <;> omega) | done)), ?_⟩
              obtain ⟨gu1322, Xu1323⟩ := EC_53 (P := fz s242 = 0) (rF s242 0 29) Gu1306 O217u1304 (fun hf => by omega)
              have Ou1324 : Im (fz s242 = 0) _ := fun hf => OP.kc (Ou1302 hf) (Xu1323 hf).2.2 (by omega)
              have Lu1325 : Im (fz s242 = 0) _ := fun hf => LI.kc (Lu1303 hf) (Xu1323 hf).2.2
              have O217u1326 : Im (fz s242 = 0) _ := fun hf => (Xu1323 hf).2.1
              have Ku1327 : Im (fz s242 = 0) (GK g gu1322 (rF σ (rR σ 7) 7) (rF s242 (rR σ 7) 7) x1) := fun hf => GK.kc (Ku1305 hf) (Xu1323 hf).2.2 (by omega)
              have Gu1328 : Im (fz s242 = 0) _ := fun hf => (Xu1323 hf).1
              have A310 : Im (fz s242 = 0) (RG σ (sT s242 (rR σ 7) 2 x1 v217) (rR σ 7) x1) := fun hf => RG.tst (f := 2) (i := x1) (x := v217) hp_2 (A242 hf) (by decide) (by omega)
              obtain ⟨gs310, Xs310⟩ := EH_2_4 (P := fz s242 = 0) hp_2 Gu1328 Ou1324 O217u1326 (fun _ h => h) (fun hf => by omega)
              have Ku1329 : Im (fz s242 = 0) (GK g gs310 (rF σ (rR σ 7) 7) (rF s242 (rR σ 7) 7) x1) := fun hf => GK.ks (Ku1327 hf) (Xs310 hf).2.2.2.1 (by omega) (by omega)
              have Gu1330 : Im (fz s242 = 0) _ := fun hf => (Xs310 hf).1
              have Ou1331 : Im (fz s242 = 0) _ := fun hf => (Xs310 hf).2.1
              have Lu1332 : Im (fz s242 = 0) _ := fun hf => (Xs310 hf).2.2.1
              refine ⟨(by (try simp only [pre_X14_blanks, reduceIte, and_true, true_and, and_false, false_and, and_self, Nat.reduceEqDiff, fz_sA, rF_sA, rA_sA, rR_sA, rF_sT, rR_sT, sT_sF, fz_sT, rA_sT26 hp_2, rA_sT27 hp_2, rA_sT34 hp_2, rA_sT35 hp_2, rA_sT36 hp_2, rA_sT37 hp_2, rA_sT40 hp_2, TPRp_sT hp_2, WNp_sT hp_2, VMp_sT hp_2, KYp_sT hp_2, PPp_sT hp_2, WFp_sT hp_2, CCp_sT hp_2, rNMp_sT2, PNp_sT2, rk_n0 hp_2, Ks242]); (all_goals (repeat' (first | with_reducible intro _ | with_reducible apply And.intro | with_reducible refine Exists.intro gs310 ?_ | with_reducible refine Im.and ?_ ?_))); all_goals (first | assumption | trivial | ((with_reducible refine Im.i fun hf_ => ?_); first | exact (A310 hf_) | exact (Gu1330 hf_) | exact (Ku1329 hf_) | exact (Ou1331 hf_).cst | exact (Lu1332 hf_) | exact ok1.i | (exact LI.z (fun h => absurd h (by decide))) | (exact absurd hf_ (by omega)) | omega) | (unfold NBP; (try simp only [reduceIte, and_true, true_and, and_false, false_and, and_self, Nat.reduceEqDiff, fz_sA, rF_sA, rA_sA, rR_sA, rF_sT, rR_sT, sT_sF, fz_sT, rA_sT26 hp_2, rA_sT27 hp_2, rA_sT34 hp_2, rA_sT35 hp_2, rA_sT36 hp_2, rA_sT37 hp_2, rA_sT40 hp_2, TPRp_sT hp_2, WNp_sT hp_2, VMp_sT hp_2, KYp_sT hp_2, PPp_sT hp_2, WFp_sT hp_2, CCp_sT hp_2, rNMp_sT2, PNp_sT2, rk_n0 hp_2, Ks242]); omega) | (unfold NBQ; (try simp only [reduceIte, and_true, true_and, and_false, false_and, and_self, Nat.reduceEqDiff, fz_sA, rF_sA, rA_sA, rR_sA, rF_sT, rR_sT, sT_sF, fz_sT, rA_sT26 hp_2, rA_sT27 hp_2, rA_sT34 hp_2, rA_sT35 hp_2, rA_sT36 hp_2, rA_sT37 hp_2, rA_sT40 hp_2, TPRp_sT hp_2, WNp_sT hp_2, VMp_sT hp_2, KYp_sT hp_2, PPp_sT hp_2, WFp_sT hp_2, CCp_sT hp_2, rNMp_sT2, PNp_sT2, rk_n0 hp_2, Ks242]); omega) | omega | (have zz_ := fz_z (by assumption); omega) | (split <;> omega) | (exact fun hf_ => L_ (by omega)) | ((repeat' split) <;> omega) | done)), ?_⟩
              intro s329 Ws329 e329_0 e329_1 e329_2 e329_3 e329_4 e329_5 e329_6 e329_7 e329_8 e329_9 e329_10 e329_11 e329_12 e329_13 e329_14 e329_15 e329_16 e329_17 e329_18 e329_19 e329_20 e329_21 e329_22 R329 q329
              have q329 := dig_blanks q329 (by (try simp only [reduceIte, and_true, true_and, and_false, false_and, and_self, Nat.reduceEqDiff, fz_sA, rF_sA, rA_sA, rR_sA, rF_sT, rR_sT, sT_sF, fz_sT, rA_sT26 hp_2, rA_sT27 hp_2, rA_sT34 hp_2, rA_sT35 hp_2, rA_sT36 hp_2, rA_sT37 hp_2, rA_sT40 hp_2, TPRp_sT hp_2, WNp_sT hp_2, VMp_sT hp_2, KYp_sT hp_2, PPp_sT hp_2, WFp_sT hp_2, CCp_sT hp_2, rNMp_sT2, PNp_sT2, rk_n0 hp_2, Ks242]); omega)
              obtain ⟨q329_1, q329_2⟩ := q329
              (try simp only [reduceIte, and_true, true_and, and_false, false_and, and_self, Nat.reduceEqDiff, fz_sA, rF_sA, rA_sA, rR_sA, rF_sT, rR_sT, sT_sF, fz_sT, rA_sT26 hp_2, rA_sT27 hp_2, rA_sT34 hp_2, rA_sT35 hp_2, rA_sT36 hp_2, rA_sT37 hp_2, rA_sT40 hp_2, TPRp_sT hp_2, WNp_sT hp_2, VMp_sT hp_2, KYp_sT hp_2, PPp_sT hp_2, WFp_sT hp_2, CCp_sT hp_2, rNMp_sT2, PNp_sT2, rk_n0 hp_2, Ks242, NBP, NBQ] at q329_1 q329_2 e329_0 e329_1 e329_2 e329_3 e329_4 e329_5 e329_6 e329_7 e329_8 e329_9 e329_10 e329_11 e329_12 e329_13 e329_14 e329_15 e329_16 e329_17 e329_18 e329_19 e329_20 e329_21 e329_22 R329)
              have Ks329 : rR s329 7 = rR σ 7 := by first | assumption | ((try simp only [rR_sF, rR_sA, rR_sT, rR_sL] at e329_0 e329_1 e329_2 e329_3 e329_4 e329_5 e329_6 e329_7 e329_8 e329_9 e329_10 e329_11 e329_12 e329_13 e329_14 e329_15 e329_16 e329_17 e329_18 e329_19 e329_20 e329_21 e329_22 R329); omega)
              have zr329 := fz_rng s329
              have zc329 : fz s329 = 0 → fz s242 = 0 := fun hf => by omega
              have A329 : Im (fz s329 = 0) (RG σ s329 (rR σ 7) x1) := fun hf => RG.trk hp_2 (A310 (zc329 hf)) R329 (Or.inr (Or.inl rfl))
              have Ou1333 : Im (fz s329 = 0) _ := fun hf => OP.gk0 (Ou1331 (zc329 hf)) (GK.up (g := gs310) (N := rF (sT s242 (rR σ 7) 2 x1 v217) (rR σ 7) 7) (N' := rF s329 (rR σ 7) 7) (c := 0) (by first | assumption | omega | (simp only [rF_sT, rF_sA]; omega)))
              have Lu1334 : Im (fz s329 = 0) _ := fun hf => LI.gk0 hp_2 (Lu1332 (zc329 hf)) (Ou1331 (zc329 hf)) R329 (GK.up (g := gs310) (N := rF (sT s242 (rR σ 7) 2 x1 v217) (rR σ 7) 7) (N' := rF s329 (rR σ 7) 7) (c := 0) (by first | assumption | omega | (simp only [rF_sT, rF_sA]; omega)))
              have Ku1335 : Im (fz s329 = 0) (GK g gs310 (rF σ (rR σ 7) 7) (rF s329 (rR σ 7) 7) x1) := fun hf => GK.trans (Ku1329 (zc329 hf)) (GK.up (N := rF (sT s242 (rR σ 7) 2 x1 v217) (rR σ 7) 7) (N' := rF s329 (rR σ 7) 7) (c := 0) (by first | assumption | omega | (simp only [rF_sT, rF_sA]; omega))) (Or.inr (Or.inl rfl))
              have Gu1336 : Im (fz s329 = 0) (GS s329 (rR σ 7) gs310) := fun hf => GS.mv hp_2 (Gu1330 (zc329 hf)) R329 (by first | assumption | omega | (simp only [rF_sT, rF_sA]; omega)) (by first | (exact Int.le_of_eq (Eq.symm (by assumption))) | omega | (simp only [rF_sT, rF_sA]; omega))
              have rNMp_329 := e329_0 rNMp_242; clear e329_0
              have TPRp_329 := e329_1 TPRp_242; clear e329_1
              have WNp_329 := e329_2 WNp_242; clear e329_2
              have PNp_329 := e329_3 PNp_242; clear e329_3
              have CCp_329 := e329_4 CCp_242; clear e329_4
              refine ⟨(by (try simp only [pre_X14_here, Ks329]); (all_goals (repeat' (first | with_reducible intro _ | with_reducible apply And.intro | with_reducible refine Exists.intro gs310 ?_ | with_reducible refine Im.and ?_ ?_))); all_goals (first | assumption | trivial | ((with_reducible refine Im.i fun hf_ => ?_); first | exact (A329 hf_) | exact (Gu1336 hf_) | exact (Ku1335 hf_) | exact (Ou1333 hf_).cst | exact (Lu1334 hf_) | exact ok1.i | (exact LI.z (fun h => absurd h (by decide))) | (exact absurd hf_ (by omega)) | omega) | (unfold NBP; (try simp only [Ks329]); omega) | (unfold NBQ; (try simp only [Ks329]); omega) | omega | (have zz_ := fz_z (by assumption); omega) | (split <;> omega) | (exact fun hf_ => L_ (by omega)) | ((repeat' split) <;> omega) | done)), ?_⟩
              intro v333 hv333 q333
              unfold rng at hv333
              unfold post_X14_here at q333
              obtain ⟨q333_1, q333_2⟩ := q333
              (try simp only [Ks329, NBP, NBQ] at q333_1 q333_2)
              refine ⟨fun c338 => ?_, fun c338 => ?_⟩
              · exact (by (try simp only [inv_X14_readOptions_25, mu_X14_readOptions_25, Ks329]); (all_goals (repeat' (first | with_reducible intro _ | with_reducible apply And.intro | with_reducible refine Exists.intro gs310 ?_ | with_reducible refine Im.and ?_ ?_))); all_goals (first | assumption | trivial | ((with_reducible refine Im.i fun hf_ => ?_); first | exact (A329 hf_) | exact (Gu1336 hf_) | exact (Ku1335 hf_) | exact (Ou1333 hf_).cst | exact (Lu1334 hf_) | exact ok1.i | (exact LI.z (fun h => absurd h (by decide))) | (exact absurd hf_ (by omega)) | omega) | (unfold NBP; (try simp only [Ks329]); omega) | (unfold NBQ; (try simp only [Ks329]); omega) | omega | (have zz_ := fz_z (by assumption); omega) | (split <;> omega) | (exact fun hf_ => L_ (by omega)) | ((repeat' split) <;> omega) | done))
              · exact (by (try simp only [inv_X14_readOptions_25, mu_X14_readOptions_25, Ks329]); (all_goals (repeat' (first | with_reducible intro _ | with_reducible apply And.intro | with_reducible refine Exists.intro gs310 ?_ | with_reducible refine Im.and ?_ ?_))); all_goals (first | assumption | trivial | ((with_reducible refine Im.i fun hf_ => ?_); first | exact (A329 hf_) | exact (Gu1336 hf_) | exact (Ku1335 hf_) | exact (Ou1333 hf_).cst | exact (Lu1334 hf_) | exact ok1.i | (exact LI.z (fun h => absurd h (by decide))) | (exact absurd hf_ (by omega)) | omega) | (unfold NBP; (try simp only [Ks329]); omega) | (unfold NBQ; (try simp only [Ks329]); omega) | omega | (have zz_ := fz_z (by assumption); omega) | (split <;> omega) | (exact fun hf_ => L_ (by omega)) | ((repeat' split) <;> omega) | done))
          · refine ⟨(by (try simp only [pre_X14_place, Ks242]); (all_goals (repeat' (first | with_reducible intro _ | with_reducible apply And.intro | with_reducible refine Exists.intro g217 ?_ | with_reducible refine Im.and ?_ ?_))); all_goals (first | assumption | trivial | ((with_reducible refine Im.i fun hf_ => ?_); first | exact (A242 hf_) | exact (Gu1306 hf_) | exact (Ku1305 hf_) | exact (Ou1302 hf_).cst | exact (Lu1303 hf_) | exact (O217u1304 hf_).cst | exact ok1.i | (exact LI.z (fun h => absurd h (by decide))) | (exact absurd hf_ (by omega)) | omega) | (unfold NBP; (try simp only [Ks242]); omega) | (unfold NBQ; (try simp only [Ks242]); omega) | omega | (have zz_ := fz_z (by assumption); omega) | (split <;> omega) | (exact fun hf_ => L_ (by omega)) | ((repeat' split) <;> omega) | done)), ?_⟩
            intro v290 hv290 q290
            unfold rng at hv290
            unfold post_X14_place at q290
            obtain ⟨q290_1, q290_2⟩ := q290
            (try simp only [Ks242, NBP, NBQ] at q290_1 q290_2)
            refine ⟨(by (try simp only [pre_X14_bad, Ks242]); (all_goals (repeat' (first | with_reducible intro _ | with_reducible apply And.intro | with_reducible refine Exists.intro g217 ?_ | with_reducible refine Im.and ?_ ?_))); all_goals (first | assumption | trivial | ((with_reducible refine Im.i fun hf_ => ?_); first | exact (A242 hf_) | exact (Gu1306 hf_) | exact (Ku1305 hf_) | exact (Ou1302 hf_).cst | exact (Lu1303 hf_) | exact (O217u1304 hf_).cst | exact ok1.i | (exact LI.z (fun h => absurd h (by decide))) | (exact absurd hf_ (by omega)) | omega) | (unfold NBP; (try simp only [Ks242]); omega) | (unfold NBQ; (try simp only [Ks242]); omega) | omega | (have zz_ := fz_z (by assumption); omega) | (split <;> omega) | (exact fun hf_ => L_ (by omega)) | ((repeat' split) <;> omega) | done)), ?_⟩
            intro s293 Ws293 e293_0 e293_1 e293_2 e293_3 e293_4 e293_5 e293_6 e293_7 e293_8 e293_9 e293_10 e293_11 e293_12 e293_13 e293_14 e293_15 e293_16 e293_17 e293_18 e293_19 e293_20 e293_21 R293 q293
            have q293 := dig_bad q293 (by (try simp only [Ks242]); omega)
            obtain ⟨q293_1, q293_2⟩ := q293
            (try simp only [Ks242, NBP, NBQ] at q293_1 q293_2 e293_0 e293_1 e293_2 e293_3 e293_4 e293_5 e293_6 e293_7 e293_8 e293_9 e293_10 e293_11 e293_12 e293_13 e293_14 e293_15 e293_16 e293_17 e293_18 e293_19 e293_20 e293_21 R293)
            have Ks293 : rR s293 7 = rR σ 7 := by first | assumption | ((try simp only [rR_sF, rR_sA, rR_sT, rR_sL] at e293_0 e293_1 e293_2 e293_3 e293_4 e293_5 e293_6 e293_7 e293_8 e293_9 e293_10 e293_11 e293_12 e293_13 e293_14 e293_15 e293_16 e293_17 e293_18 e293_19 e293_20 e293_21 R293); omega)
            have zr293 := fz_rng s293
            have zc293 : fz s293 = 0 → fz s242 = 0 := fun hf => by omega
            have A293 : Im (fz s293 = 0) (RG σ s293 (rR σ 7) x1) := fun hf => RG.trk hp_2 (A242 (zc293 hf)) R293 (Or.inr (Or.inl rfl))
            have Ou1337 : Im (fz s293 = 0) _ := fun hf => OP.gk0 (Ou1302 (zc293 hf)) (GK.up (g := g217) (N := rF s242 (rR σ 7) 7) (N' := rF s293 (rR σ 7) 7) (c := 0) (by first | assumption | omega | (simp only [rF_sT, rF_sA]; omega)))
            have Lu1338 : Im (fz s293 = 0) _ := fun hf => LI.gk0 hp_2 (Lu1303 (zc293 hf)) (Ou1302 (zc293 hf)) R293 (GK.up (g := g217) (N := rF s242 (rR σ 7) 7) (N' := rF s293 (rR σ 7) 7) (c := 0) (by first | assumption | omega | (simp only [rF_sT, rF_sA]; omega)))
            have O217u1339 : Im (fz s293 = 0) _ := fun hf => OP.gk0 (O217u1304 (zc293 hf)) (GK.up (g := g217) (N := rF s242 (rR σ 7) 7) (N' := rF s293 (rR σ 7) 7) (c := 0) (by first | assumption | omega | (simp only [rF_sT, rF_sA]; omega)))
            have Ku1340 : Im (fz s293 = 0) (GK g g217 (rF σ (rR σ 7) 7) (rF s293 (rR σ 7) 7) x1) := fun hf => GK.trans (Ku1305 (zc293 hf)) (GK.up (N := rF s242 (rR σ 7) 7) (N' := rF s293 (rR σ 7) 7) (c := 0) (by first | assumption | omega | (simp only [rF_sT, rF_sA]; omega))) (Or.inr (Or.inl rfl))
            have Gu1341 : Im (fz s293 = 0) (GS s293 (rR σ 7) g217) := fun hf => GS.mv hp_2 (Gu1306 (zc293 hf)) R293 (by first | assumption | omega | (simp only [rF_sT, rF_sA]; omega)) (by first | (exact Int.le_of_eq (Eq.symm (by assumption))) | omega | (simp only [rF_sT, rF_sA]; omega))
            have rNMp_293 := e293_0 rNMp_242; clear e293_0
            have TPRp_293 := e293_1 TPRp_242; clear e293_1
            have WNp_293 := e293_2 WNp_242; clear e293_2
            have PNp_293 := e293_3 PNp_242; clear e293_3
            have CCp_293 := e293_4 CCp_242; clear e293_4
            refine ⟨fun c297 => ?_, fun c297 => ?_⟩
            · refine ⟨(by (try simp only [Ks293]); (all_goals (repeat' (first | with_reducible intro _ | with_reducible apply And.intro | with_reducible refine Exists.intro g217 ?_ | with_reducible refine Im.and ?_ ?_))); all_goals (first | assumption | trivial | ((with_reducible refine Im.i fun hf_ => ?_); first | exact (A293 hf_) | exact (Gu1341 hf_) | exact (Ku1340 hf_) | exact (Ou1337 hf_).cst | exact (Lu1338 hf_) | exact (O217u1339 hf_).cst | exact ok1.i | (exact LI.z (fun h => absurd h (by decide))) | (exact absurd hf_ (by omega)) | omega) | (unfold NBP; (try simp only [Ks293]); omega) | (unfold NBQ; (try simp only [Ks293]); omega) | omega | (have zz_ := fz_z (by assumption); omega) | (split <;> omega) | (exact fun hf_ => L_ (by omega)) | ((repeat' split) <;> omega) | done)), ?_⟩
              obtain ⟨gu1342, Xu1343⟩ := EC_53 (P := fz s293 = 0) (rF s242 0 29) Gu1341 O217u1339 (fun hf => by omega)
              have Ou1344 : Im (fz s293 = 0) _ := fun hf => OP.kc (Ou1337 hf) (Xu1343 hf).2.2 (by omega)
              have Lu1345 : Im (fz s293 = 0) _ := fun hf => LI.kc (Lu1338 hf) (Xu1343 hf).2.2
              have O217u1346 : Im (fz s293 = 0) _ := fun hf => (Xu1343 hf).2.1
              have Ku1347 : Im (fz s293 = 0) (GK g gu1342 (rF σ (rR σ 7) 7) (rF s293 (rR σ 7) 7) x1) := fun hf => GK.kc (Ku1340 hf) (Xu1343 hf).2.2 (by omega)
              have Gu1348 : Im (fz s293 = 0) _ := fun hf => (Xu1343 hf).1
              have A324 : Im (fz s293 = 0) (RG σ (sT s293 (rR σ 7) 5 y148_2 v217) (rR σ 7) x1) := fun hf => RG.tst (f := 5) (i := y148_2) (x := v217) hp_2 (A293 hf) (by decide) (by omega)
              obtain ⟨gs324, Xs324⟩ := EA_2_4 (P := fz s293 = 0) hp_2 Gu1348 Ou1344 Lu1345 O217u1346 (fun _ h => h) (fun hf => by omega)
              have Ku1349 : Im (fz s293 = 0) (GK g gs324 (rF σ (rR σ 7) 7) (rF s293 (rR σ 7) 7) x1) := fun hf => GK.ks (Ku1347 hf) (Xs324 hf).2.2.2.1 (by omega) (by omega)
              have Gu1350 : Im (fz s293 = 0) _ := fun hf => (Xs324 hf).1
              have Ou1351 : Im (fz s293 = 0) _ := fun hf => (Xs324 hf).2.1
              have Lu1352 : Im (fz s293 = 0) _ := fun hf => (Xs324 hf).2.2.1
              refine ⟨(by (try simp only [pre_X14_blanks, reduceIte, and_true, true_and, and_false, false_and, and_self, Nat.reduceEqDiff, fz_sA, rF_sA, rA_sA, rR_sA, rF_sT, rR_sT, sT_sF, fz_sT, rA_sT26 hp_2, rA_sT27 hp_2, rA_sT34 hp_2, rA_sT35 hp_2, rA_sT36 hp_2, rA_sT37 hp_2, rA_sT40 hp_2, TPRp_sT hp_2, WNp_sT hp_2, VMp_sT hp_2, KYp_sT hp_2, PPp_sT hp_2, WFp_sT hp_2, CCp_sT hp_2, rNMp_sT5, PNp_sT5, rk_n0 hp_2, Ks293]); (all_goals (repeat' (first | with_reducible intro _ | with_reducible apply And.intro | with_reducible refine Exists.intro gs324 ?_ | with_reducible refine Im.and ?_ ?_))); all_goals (first | assumption | trivial | ((with_reducible refine Im.i fun hf_ => ?_); first | exact (A324 hf_) | exact (Gu1350 hf_) | exact (Ku1349 hf_) | exact (Ou1351 hf_).cst | exact (Lu1352 hf_) | exact ok1.i | (exact LI.z (fun h => absurd h (by decide))) | (exact absurd hf_ (by omega)) | omega) | (unfold NBP; (try simp only [reduceIte, and_true, true_and, and_false, false_and, and_self, Nat.reduceEqDiff, fz_sA, rF_sA, rA_sA, rR_sA, rF_sT, rR_sT, sT_sF, fz_sT, rA_sT26 hp_2, rA_sT27 hp_2, rA_sT34 hp_2, rA_sT35 hp_2, rA_sT36 hp_2, rA_sT37 hp_2, rA_sT40 hp_2, TPRp_sT hp_2, WNp_sT hp_2, VMp_sT hp_2, KYp_sT hp_2, PPp_sT hp_2, WFp_sT hp_2, CCp_sT hp_2, rNMp_sT5, PNp_sT5, rk_n0 hp_2, Ks293]); omega) | (unfold NBQ; (try simp only [reduceIte, and_true, true_and, and_false, false_and, and_self, Nat.reduceEqDiff, fz_sA, rF_sA, rA_sA, rR_sA, rF_sT, rR_sT, sT_sF, fz_sT, rA_sT26 hp_2, rA_sT27 hp_2, rA_sT34 hp_2, rA_sT35 hp_2, rA_sT36 hp_2, rA_sT37 hp_2, rA_sT40 hp_2, TPRp_sT hp_2, WNp_sT hp_2, VMp_sT hp_2, KYp_sT hp_2, PPp_sT hp_2, WFp_sT hp_2, CCp_sT hp_2, rNMp_sT5, PNp_sT5, rk_n0 hp_2, Ks293]); omega) | omega | (have zz_ := fz_z (by assumption); omega) | (split <;> omega) | (exact fun hf_ => L_ (by omega)) | ((repeat' split) <;> omega) | done)), ?_⟩
              intro s329 Ws329 e329_0 e329_1 e329_2 e329_3 e329_4 e329_5 e329_6 e329_7 e329_8 e329_9 e329_10 e329_11 e329_12 e329_13 e329_14 e329_15 e329_16 e329_17 e329_18 e329_19 e329_20 e329_21 e329_22 R329 q329
              have q329 := dig_blanks q329 (by (try simp only [reduceIte, and_true, true_and, and_false, false_and, and_self, Nat.reduceEqDiff, fz_sA, rF_sA, rA_sA, rR_sA, rF_sT, rR_sT, sT_sF, fz_sT, rA_sT26 hp_2, rA_sT27 hp_2, rA_sT34 hp_2, rA_sT35 hp_2, rA_sT36 hp_2, rA_sT37 hp_2, rA_sT40 hp_2, TPRp_sT hp_2, WNp_sT hp_2, VMp_sT hp_2, KYp_sT hp_2, PPp_sT hp_2, WFp_sT hp_2, CCp_sT hp_2, rNMp_sT5, PNp_sT5, rk_n0 hp_2, Ks293]); omega)
              obtain ⟨q329_1, q329_2⟩ := q329
              (try simp only [reduceIte, and_true, true_and, and_false, false_and, and_self, Nat.reduceEqDiff, fz_sA, rF_sA, rA_sA, rR_sA, rF_sT, rR_sT, sT_sF, fz_sT, rA_sT26 hp_2, rA_sT27 hp_2, rA_sT34 hp_2, rA_sT35 hp_2, rA_sT36 hp_2, rA_sT37 hp_2, rA_sT40 hp_2, TPRp_sT hp_2, WNp_sT hp_2, VMp_sT hp_2, KYp_sT hp_2, PPp_sT hp_2, WFp_sT hp_2, CCp_sT hp_2, rNMp_sT5, PNp_sT5, rk_n0 hp_2, Ks293, NBP, NBQ] at q329_1 q329_2 e329_0 e329_1 e329_2 e329_3 e329_4 e329_5 e329_6 e329_7 e329_8 e329_9 e329_10 e329_11 e329_12 e329_13 e329_14 e329_15 e329_16 e329_17 e329_18 e329_19 e329_20 e329_21 e329_22 R329)
              have Ks329 : rR s329 7 = rR σ 7 := by first | assumption | ((try simp only [rR_sF, rR_sA, rR_sT, rR_sL] at e329_0 e329_1 e329_2 e329_3 e329_4 e329_5 e329_6 e329_7 e329_8 e329_9 e329_10 e329_11 e329_12 e329_13 e329_14 e329_15 e329_16 e329_17 e329_18 e329_19 e329_20 e329_21 e329_22 R329); omega)
              have zr329 := fz_rng s329
              have zc329 : fz s329 = 0 → fz s293 = 0 := fun hf => by omega
              have A329 : Im (fz s329 = 0) (RG σ s329 (rR σ 7) x1) := fun hf => RG.trk hp_2 (A324 (zc329 hf)) R329 (Or.inr (Or.inl rfl))
              have Ou1353 : Im (fz s329 = 0) _ := fun hf => OP.gk0 (Ou1351 (zc329 hf)) (GK.up (g := gs324) (N := rF (sT s293 (rR σ 7) 5 y148_2 v217) (rR σ 7) 7) (N' := rF s329 (rR σ 7) 7) (c := 0) (by first | assumption | omega | (simp only [rF_sT, rF_sA]; omega)))
              have Lu1354 : Im (fz s329 = 0) _ := fun hf => LI.gk0 hp_2 (Lu1352 (zc329 hf)) (Ou1351 (zc329 hf)) R329 (GK.up (g := gs324) (N := rF (sT s293 (rR σ 7) 5 y148_2 v217) (rR σ 7) 7) (N' := rF s329 (rR σ 7) 7) (c := 0) (by first | assumption | omega | (simp only [rF_sT, rF_sA]; omega)))
              have Ku1355 : Im (fz s329 = 0) (GK g gs324 (rF σ (rR σ 7) 7) (rF s329 (rR σ 7) 7) x1) := fun hf => GK.trans (Ku1349 (zc329 hf)) (GK.up (N := rF (sT s293 (rR σ 7) 5 y148_2 v217) (rR σ 7) 7) (N' := rF s329 (rR σ 7) 7) (c := 0) (by first | assumption | omega | (simp only [rF_sT, rF_sA]; omega))) (Or.inr (Or.inl rfl))
              have Gu1356 : Im (fz s329 = 0) (GS s329 (rR σ 7) gs324) := fun hf => GS.mv hp_2 (Gu1350 (zc329 hf)) R329 (by first | assumption | omega | (simp only [rF_sT, rF_sA]; omega)) (by first | (exact Int.le_of_eq (Eq.symm (by assumption))) | omega | (simp only [rF_sT, rF_sA]; omega))
              have rNMp_329 := e329_0 rNMp_293; clear e329_0
              have TPRp_329 := e329_1 TPRp_293; clear e329_1
              have WNp_329 := e329_2 WNp_293; clear e329_2
              have PNp_329 := e329_3 PNp_293; clear e329_3
              have CCp_329 := e329_4 CCp_293; clear e329_4
              refine ⟨(by (try simp only [pre_X14_here, Ks329]); (all_goals (repeat' (first | with_reducible intro _ | with_reducible apply And.intro | with_reducible refine Exists.intro gs324 ?_ | with_reducible refine Im.and ?_ ?_))); all_goals (first | assumption | trivial | ((with_reducible refine Im.i fun hf_ => ?_); first | exact (A329 hf_) | exact (Gu1356 hf_) | exact (Ku1355 hf_) | exact (Ou1353 hf_).cst | exact (Lu1354 hf_) | exact ok1.i | (exact LI.z (fun h => absurd h (by decide))) | (exact absurd hf_ (by omega)) | omega) | (unfold NBP; (try simp only [Ks329]); omega) | (unfold NBQ; (try simp only [Ks329]); omega) | omega | (have zz_ := fz_z (by assumption); omega) | (split <;> omega) | (exact fun hf_ => L_ (by omega)) | ((repeat' split) <;> omega) | done)), ?_⟩
              intro v333 hv333 q333
              unfold rng at hv333
              unfold post_X14_here at q333
              obtain ⟨q333_1, q333_2⟩ := q333
              (try simp only [Ks329, NBP, NBQ] at q333_1 q333_2)
              refine ⟨fun c338 => ?_, fun c338 => ?_⟩
              · exact (by (try simp only [inv_X14_readOptions_25, mu_X14_readOptions_25, Ks329]); (all_goals (repeat' (first | with_reducible intro _ | with_reducible apply And.intro | with_reducible refine Exists.intro gs324 ?_ | with_reducible refine Im.and ?_ ?_))); all_goals (first | assumption | trivial | ((with_reducible refine Im.i fun hf_ => ?_); first | exact (A329 hf_) | exact (Gu1356 hf_) | exact (Ku1355 hf_) | exact (Ou1353 hf_).cst | exact (Lu1354 hf_) | exact ok1.i | (exact LI.z (fun h => absurd h (by decide))) | (exact absurd hf_ (by omega)) | omega) | (unfold NBP; (try simp only [Ks329]); omega) | (unfold NBQ; (try simp only [Ks329]); omega) | omega | (have zz_ := fz_z (by assumption); omega) | (split <;> omega) | (exact fun hf_ => L_ (by omega)) | ((repeat' split) <;> omega) | done))
              · exact (by (try simp only [inv_X14_readOptions_25, mu_X14_readOptions_25, Ks329]); (all_goals (repeat' (first | with_reducible intro _ | with_reducible apply And.intro | with_reducible refine Exists.intro gs324 ?_ | with_reducible refine Im.and ?_ ?_))); all_goals (first | assumption | trivial | ((with_reducible refine Im.i fun hf_ => ?_); first | exact (A329 hf_) | exact (Gu1356 hf_) | exact (Ku1355 hf_) | exact (Ou1353 hf_).cst | exact (Lu1354 hf_) | exact ok1.i | (exact LI.z (fun h => absurd h (by decide))) | (exact absurd hf_ (by omega)) | omega) | (unfold NBP; (try simp only [Ks329]); omega) | (unfold NBQ; (try simp only [Ks329]); omega) | omega | (have zz_ := fz_z (by assumption); omega) | (split <;> omega) | (exact fun hf_ => L_ (by omega)) | ((repeat' split) <;> omega) | done))
            · refine ⟨(by (try simp only [Ks293]); (all_goals (repeat' (first | with_reducible intro _ | with_reducible apply And.intro | with_reducible refine Exists.intro g217 ?_ | with_reducible refine Im.and ?_ ?_))); all_goals (first | assumption | trivial | ((with_reducible refine Im.i fun hf_ => ?_); first | exact (A293 hf_) | exact (Gu1341 hf_) | exact (Ku1340 hf_) | exact (Ou1337 hf_).cst | exact (Lu1338 hf_) | exact (O217u1339 hf_).cst | exact ok1.i | (exact LI.z (fun h => absurd h (by decide))) | (exact absurd hf_ (by omega)) | omega) | (unfold NBP; (try simp only [Ks293]); omega) | (unfold NBQ; (try simp only [Ks293]); omega) | omega | (have zz_ := fz_z (by assumption); omega) | (split <;> omega) | (exact fun hf_ => L_ (by omega)) | ((repeat' split) <;> omega) | done)), ?_⟩
              obtain ⟨gu1357, Xu1358⟩ := EC_53 (P := fz s293 = 0) (rF s242 0 29) Gu1341 O217u1339 (fun hf => by omega)
              have Ou1359 : Im (fz s293 = 0) _ := fun hf => OP.kc (Ou1337 hf) (Xu1358 hf).2.2 (by omega)
              have Lu1360 : Im (fz s293 = 0) _ := fun hf => LI.kc (Lu1338 hf) (Xu1358 hf).2.2
              have O217u1361 : Im (fz s293 = 0) _ := fun hf => (Xu1358 hf).2.1
              have Ku1362 : Im (fz s293 = 0) (GK g gu1357 (rF σ (rR σ 7) 7) (rF s293 (rR σ 7) 7) x1) := fun hf => GK.kc (Ku1340 hf) (Xu1358 hf).2.2 (by omega)
              have Gu1363 : Im (fz s293 = 0) _ := fun hf => (Xu1358 hf).1
              have A310 : Im (fz s293 = 0) (RG σ (sT s293 (rR σ 7) 2 x1 v217) (rR σ 7) x1) := fun hf => RG.tst (f := 2) (i := x1) (x := v217) hp_2 (A293 hf) (by decide) (by omega)
              obtain ⟨gs310, Xs310⟩ := EH_2_4 (P := fz s293 = 0) hp_2 Gu1363 Ou1359 O217u1361 (fun _ h => h) (fun hf => by omega)
              have Ku1364 : Im (fz s293 = 0) (GK g gs310 (rF σ (rR σ 7) 7) (rF s293 (rR σ 7) 7) x1) := fun hf => GK.ks (Ku1362 hf) (Xs310 hf).2.2.2.1 (by omega) (by omega)
              have Gu1365 : Im (fz s293 = 0) _ := fun hf => (Xs310 hf).1
              have Ou1366 : Im (fz s293 = 0) _ := fun hf => (Xs310 hf).2.1
              have Lu1367 : Im (fz s293 = 0) _ := fun hf => (Xs310 hf).2.2.1
              refine ⟨(by (try simp only [pre_X14_blanks, reduceIte, and_true, true_and, and_false, false_and, and_self, Nat.reduceEqDiff, fz_sA, rF_sA, rA_sA, rR_sA, rF_sT, rR_sT, sT_sF, fz_sT, rA_sT26 hp_2, rA_sT27 hp_2, rA_sT34 hp_2, rA_sT35 hp_2, rA_sT36 hp_2, rA_sT37 hp_2, rA_sT40 hp_2, TPRp_sT hp_2, WNp_sT hp_2, VMp_sT hp_2, KYp_sT hp_2, PPp_sT hp_2, WFp_sT hp_2, CCp_sT hp_2, rNMp_sT2, PNp_sT2, rk_n0 hp_2, Ks293]); (all_goals (repeat' (first | with_reducible intro _ | with_reducible apply And.intro | with_reducible refine Exists.intro gs310 ?_ | with_reducible refine Im.and ?_ ?_))); all_goals (first | assumption | trivial | ((with_reducible refine Im.i fun hf_ => ?_); first | exact (A310 hf_) | exact (Gu1365 hf_) | exact (Ku1364 hf_) | exact (Ou1366 hf_).cst | exact (Lu1367 hf_) | exact ok1.i | (exact LI.z (fun h => absurd h (by decide))) | (exact absurd hf_ (by omega)) | omega) | (unfold NBP; (try simp only [reduceIte, and_true, true_and, and_false, false_and, and_self, Nat.reduceEqDiff, fz_sA, rF_sA, rA_sA, rR_sA, rF_sT, rR_sT, sT_sF, fz_sT, rA_sT26 hp_2, rA_sT27 hp_2, rA_sT34 hp_2, rA_sT35 hp_2, rA_sT36 hp_2, rA_sT37 hp_2, rA_sT40 hp_2, TPRp_sT hp_2, WNp_sT hp_2, VMp_sT hp_2, KYp_sT hp_2, PPp_sT hp_2, WFp_sT hp_2, CCp_sT hp_2, rNMp_sT2, PNp_sT2, rk_n0 hp_2, Ks293]); omega) | (unfold NBQ; (try simp only [reduceIte, and_true, true_and, and_false, false_and, and_self, Nat.reduceEqDiff, fz_sA, rF_sA, rA_sA, rR_sA, rF_sT, rR_sT, sT_sF, fz_sT, rA_sT26 hp_2, rA_sT27 hp_2, rA_sT34 hp_2, rA_sT35 hp_2, rA_sT36 hp_2, rA_sT37 hp_2, rA_sT40 hp_2, TPRp_sT hp_2, WNp_sT hp_2, VMp_sT hp_2, KYp_sT hp_2, PPp_sT hp_2, WFp_sT hp_2, CCp_sT hp_2, rNMp_sT2, PNp_sT2, rk_n0 hp_2, Ks293]); omega) | omega | (have zz_ := fz_z (by assumption); omega) | (split <;> omega) | (exact fun hf_ => L_ (by omega)) | ((repeat' split) <;> omega) | done)), ?_⟩
              intro s329 Ws329 e329_0 e329_1 e329_2 e329_3 e329_4 e329_5 e329_6 e329_7 e329_8 e329_9 e329_10 e329_11 e329_12 e329_13 e329_14 e329_15 e329_16 e329_17 e329_18 e329_19 e329_20 e329_21 e329_22 R329 q329
              have q329 := dig_blanks q329 (by (try simp only [reduceIte, and_true, true_and, and_false, false_and, and_self, Nat.reduceEqDiff, fz_sA, rF_sA, rA_sA, rR_sA, rF_sT, rR_sT, sT_sF, fz_sT, rA_sT26 hp_2, rA_sT27 hp_2, rA_sT34 hp_2, rA_sT35 hp_2, rA_sT36 hp_2, rA_sT37 hp_2, rA_sT40 hp_2, TPRp_sT hp_2, WNp_sT hp_2, VMp_sT hp_2, KYp_sT hp_2, PPp_sT hp_2, WFp_sT hp_2, CCp_sT hp_2, rNMp_sT2, PNp_sT2, rk_n0 hp_2, Ks293]); omega)
              obtain ⟨q329_1, q329_2⟩ := q329
              (try simp only [reduceIte, and_true, true_and, and_false, false_and, and_self, Nat.reduceEqDiff, fz_sA, rF_sA, rA_sA, rR_sA, rF_sT, rR_sT, sT_sF, fz_sT, rA_sT26 hp_2, rA_sT27 hp_2, rA_sT34 hp_2, rA_sT35 hp_2, rA_sT36 hp_2, rA_sT37 hp_2, rA_sT40 hp_2, TPRp_sT hp_2, WNp_sT hp_2, VMp_sT hp_2, KYp_sT hp_2, PPp_sT hp_2, WFp_sT hp_2, CCp_sT hp_2, rNMp_sT2, PNp_sT2, rk_n0 hp_2, Ks293, NBP, NBQ] at q329_1 q329_2 e329_0 e329_1 e329_2 e329_3 e329_4 e329_5 e329_6 e329_7 e329_8 e329_9 e329_10 e329_11 e329_12 e329_13 e329_14 e329_15 e329_16 e329_17 e329_18 e329_19 e329_20 e329_21 e329_22 R329)
              have Ks329 : rR s329 7 = rR σ 7 := by first | assumption | ((try simp only [rR_sF, rR_sA, rR_sT, rR_sL] at e329_0 e329_1 e329_2 e329_3 e329_4 e329_5 e329_6 e329_7 e329_8 e329_9 e329_10 e329_11 e329_12 e329_13 e329_14 e329_15 e329_16 e329_17 e329_18 e329_19 e329_20 e329_21 e329_22 R329); omega)
              have zr329 := fz_rng s329
              have zc329 : fz s329 = 0 → fz s293 = 0 := fun hf => by omega
              have A329 : Im (fz s329 = 0) (RG σ s329 (rR σ 7) x1) := fun hf => RG.trk hp_2 (A310 (zc329 hf)) R329 (Or.inr (Or.inl rfl))
              have Ou1368 : Im (fz s329 = 0) _ := fun hf => OP.gk0 (Ou1366 (zc329 hf)) (GK.up (g := gs310) (N := rF (sT s293 (rR σ 7) 2 x1 v217) (rR σ 7) 7) (N' := rF s329 (rR σ 7) 7) (c := 0) (by first | assumption | omega | (simp only [rF_sT, rF_sA]; omega)))
              have Lu1369 : Im (fz s329 = 0) _ := fun hf => LI.gk0 hp_2 (Lu1367 (zc329 hf)) (Ou1366 (zc329 hf)) R329 (GK.up (g := gs310) (N := rF (sT s293 (rR σ 7) 2 x1 v217) (rR σ 7) 7) (N' := rF s329 (rR σ 7) 7) (c := 0) (by first | assumption | omega | (simp only [rF_sT, rF_sA]; omega)))
              have Ku1370 : Im (fz s329 = 0) (GK g gs310 (rF σ (rR σ 7) 7) (rF s329 (rR σ 7) 7) x1) := fun hf => GK.trans (Ku1364 (zc329 hf)) (GK.up (N := rF (sT s293 (rR σ 7) 2 x1 v217) (rR σ 7) 7) (N' := rF s329 (rR σ 7) 7) (c := 0) (by first | assumption | omega | (simp only [rF_sT, rF_sA]; omega))) (Or.inr (Or.inl rfl))
              have Gu1371 : Im (fz s329 = 0) (GS s329 (rR σ 7) gs310) := fun hf => GS.mv hp_2 (Gu1365 (zc329 hf)) R329 (by first | assumption | omega | (simp only [rF_sT, rF_sA]; omega)) (by first | (exact Int.le_of_eq (Eq.symm (by assumption))) | omega | (simp only [rF_sT, rF_sA]; omega))
              have rNMp_329 := e329_0 rNMp_293; clear e329_0
              have TPRp_329 := e329_1 TPRp_293; clear e329_1
              have WNp_329 := e329_2 WNp_293; clear e329_2
              have PNp_329 := e329_3 PNp_293; clear e329_3
              have CCp_329 := e329_4 CCp_293; clear e329_4
              refine ⟨(by (try simp only [pre_X14_here, Ks329]); (all_goals (repeat' (first | with_reducible intro _ | with_reducible apply And.intro | with_reducible refine Exists.intro gs310 ?_ | with_reducible refine Im.and ?_ ?_))); all_goals (first | assumption | trivial | ((with_reducible refine Im.i fun hf_ => ?_); first | exact (A329 hf_) | exact (Gu1371 hf_) | exact (Ku1370 hf_) | exact (Ou1368 hf_).cst | exact (Lu1369 hf_) | exact ok1.i | (exact LI.z (fun h => absurd h (by decide))) | (exact absurd hf_ (by omega)) | omega) | (unfold NBP; (try simp only [Ks329]); omega) | (unfold NBQ; (try simp only [Ks329]); omega) | omega | (have zz_ := fz_z (by assumption); omega) | (split <;> omega) | (exact fun hf_ => L_ (by omega)) | ((repeat' split) <;> omega) | done)), ?_⟩
              intro v333 hv333 q333
              unfold rng at hv333
              unfold post_X14_here at q333
              obtain ⟨q333_1, q333_2⟩ := q333
              (try simp only [Ks329, NBP, NBQ] at q333_1 q333_2)
              refine ⟨fun c338 => ?_, fun c338 => ?_⟩
              · exact (by (try simp only [inv_X14_readOptions_25, mu_X14_readOptions_25, Ks329]); (all_goals (repeat' (first | with_reducible intro _ | with_reducible apply And.intro | with_reducible refine Exists.intro gs310 ?_ | with_reducible refine Im.and ?_ ?_))); all_goals (first | assumption | trivial | ((with_reducible refine Im.i fun hf_ => ?_); first | exact (A329 hf_) | exact (Gu1371 hf_) | exact (Ku1370 hf_) | exact (Ou1368 hf_).cst | exact (Lu1369 hf_) | exact ok1.i | (exact LI.z (fun h => absurd h (by decide))) | (exact absurd hf_ (by omega)) | omega) | (unfold NBP; (try simp only [Ks329]); omega) | (unfold NBQ; (try simp only [Ks329]); omega) | omega | (have zz_ := fz_z (by assumption); omega) | (split <;> omega) | (exact fun hf_ => L_ (by omega)) | ((repeat' split) <;> omega) | done))
              · exact (by (try simp only [inv_X14_readOptions_25, mu_X14_readOptions_25, Ks329]); (all_goals (repeat' (first | with_reducible intro _ | with_reducible apply And.intro | with_reducible refine Exists.intro gs310 ?_ | with_reducible refine Im.and ?_ ?_))); all_goals (first | assumption | trivial | ((with_reducible refine Im.i fun hf_ => ?_); first | exact (A329 hf_) | exact (Gu1371 hf_) | exact (Ku1370 hf_) | exact (Ou1368 hf_).cst | exact (Lu1369 hf_) | exact ok1.i | (exact LI.z (fun h => absurd h (by decide))) | (exact absurd hf_ (by omega)) | omega) | (unfold NBP; (try simp only [Ks329]); omega) | (unfold NBQ; (try simp only [Ks329]); omega) | omega | (have zz_ := fz_z (by assumption); omega) | (split <;> omega) | (exact fun hf_ => L_ (by omega)) | ((repeat' split) <;> omega) | done))
        · intro hr_; unfold rng at hr_
          refine ⟨(by (try simp only [rng, Ks242]); (all_goals (repeat' (first | with_reducible intro _ | with_reducible apply And.intro | with_reducible refine Exists.intro g217 ?_ | with_reducible refine Im.and ?_ ?_))); all_goals (first | assumption | trivial | ((with_reducible refine Im.i fun hf_ => ?_); first | exact (A242 hf_) | exact (Gu1306 hf_) | exact (Ku1305 hf_) | exact (Ou1302 hf_).cst | exact (Lu1303 hf_) | exact (O217u1304 hf_).cst | exact ok1.i | (exact LI.z (fun h => absurd h (by decide))) | (exact absurd hf_ (by omega)) | omega) | (unfold NBP; (try simp only [Ks242]); omega) | (unfold NBQ; (try simp only [Ks242]); omega) | omega | (have zz_ := fz_z (by assumption); omega) | (split <;> omega) | (exact fun hf_ => L_ (by omega)) | ((repeat' split) <;> omega) | done)), ?_⟩
          refine ⟨g217, ?_⟩
          refine ⟨(by (try simp only [pre_X14_readArg, reduceIte, and_true, true_and, and_false, false_and, and_self, Nat.reduceEqDiff, fz_sF29, rF_sF, rA_sF, rR_sF, tr_sF, rNMp_sF, PNp_sF, GS_F29, OP_F29, NR_F29, LI_F29, RG_l29, RG_r29, TPRp_sF29, WNp_sF29, VMp_sF29, KYp_sF29, PPp_sF29, WFp_sF29, CCp_sF29, rk_n0 hp_2, Ks242]); (all_goals (repeat' (first | with_reducible intro _ | with_reducible apply And.intro | with_reducible refine Exists.intro g217 ?_ | with_reducible refine Im.and ?_ ?_))); all_goals (first | assumption | trivial | ((with_reducible refine Im.i fun hf_ => ?_); first | exact (A242 hf_) | exact (Gu1306 hf_) | exact (Ku1305 hf_) | exact (Ou1302 hf_).cst | exact (Lu1303 hf_) | exact (O217u1304 hf_).cst | exact ok1.i | (exact LI.z (fun h => absurd h (by decide))) | (exact absurd hf_ (by omega)) | omega) | (unfold NBP; (try simp only [reduceIte, and_true, true_and, and_false, false_and, and_self, Nat.reduceEqDiff, fz_sF29, rF_sF, rA_sF, rR_sF, tr_sF, rNMp_sF, PNp_sF, GS_F29, OP_F29, NR_F29, LI_F29, RG_l29, RG_r29, TPRp_sF29, WNp_sF29, VMp_sF29, KYp_sF29, PPp_sF29, WFp_sF29, CCp_sF29, rk_n0 hp_2, Ks242]); omega) | (unfold NBQ; (try simp only [reduceIte, and_true, true_and, and_false, false_and, and_self, Nat.reduceEqDiff, fz_sF29, rF_sF, rA_sF, rR_sF, tr_sF, rNMp_sF, PNp_sF, GS_F29, OP_F29, NR_F29, LI_F29, RG_l29, RG_r29, TPRp_sF29, WNp_sF29, VMp_sF29, KYp_sF29, PPp_sF29, WFp_sF29, CCp_sF29, rk_n0 hp_2, Ks242]); omega) | omega | (have zz_ := fz_z (by assumption); omega) | (split <;> omega) | (exact fun hf_ => L_ (by omega)) | ((repeat' split) <;> omega) | done)), ?_⟩
          refine ⟨(by (try simp only [rk_X14_readArg, reduceIte, and_true, true_and, and_false, false_and, and_self, Nat.reduceEqDiff, fz_sF29, rF_sF, rA_sF, rR_sF, tr_sF, rNMp_sF, PNp_sF, GS_F29, OP_F29, NR_F29, LI_F29, RG_l29, RG_r29, TPRp_sF29, WNp_sF29, VMp_sF29, KYp_sF29, PPp_sF29, WFp_sF29, CCp_sF29, rk_n0 hp_2, Ks242]); (all_goals (repeat' (first | with_reducible intro _ | with_reducible apply And.intro | with_reducible refine Exists.intro g217 ?_ | with_reducible refine Im.and ?_ ?_))); all_goals (first | assumption | trivial | ((with_reducible refine Im.i fun hf_ => ?_); first | exact (A242 hf_) | exact (Gu1306 hf_) | exact (Ku1305 hf_) | exact (Ou1302 hf_).cst | exact (Lu1303 hf_) | exact (O217u1304 hf_).cst | exact ok1.i | (exact LI.z (fun h => absurd h (by decide))) | (exact absurd hf_ (by omega)) | omega) | (unfold NBP; (try simp only [reduceIte, and_true, true_and, and_false, false_and, and_self, Nat.reduceEqDiff, fz_sF29, rF_sF, rA_sF, rR_sF, tr_sF, rNMp_sF, PNp_sF, GS_F29, OP_F29, NR_F29, LI_F29, RG_l29, RG_r29, TPRp_sF29, WNp_sF29, VMp_sF29, KYp_sF29, PPp_sF29, WFp_sF29, CCp_sF29, rk_n0 hp_2, Ks242]); omega) | (unfold NBQ; (try simp only [reduceIte, and_true, true_and, and_false, false_and, and_self, Nat.reduceEqDiff, fz_sF29, rF_sF, rA_sF, rR_sF, tr_sF, rNMp_sF, PNp_sF, GS_F29, OP_F29, NR_F29, LI_F29, RG_l29, RG_r29, TPRp_sF29, WNp_sF29, VMp_sF29, KYp_sF29, PPp_sF29, WFp_sF29, CCp_sF29, rk_n0 hp_2, Ks242]); omega) | omega | (have zz_ := fz_z (by assumption); omega) | (split <;> omega) | (exact fun hf_ => L_ (by omega)) | ((repeat' split) <;> omega) | done)), ?_⟩
          intro v274 s274 hv274 Ws274 e274_0 e274_1 e274_2 e274_3 e274_4 e274_5 e274_6 e274_7 e274_8 e274_9 q274
          unfold rng at hv274
          unfold post_X14_readArg at q274
          obtain ⟨q274_1, q274_2, q274_3, q274_4, q274_5, q274_6, q274_7, q274_8, q274_9⟩ := q274
          (try simp only [reduceIte, and_true, true_and, and_false, false_and, and_self, Nat.reduceEqDiff, fz_sF29, rF_sF, rA_sF, rR_sF, tr_sF, rNMp_sF, PNp_sF, GS_F29, OP_F29, NR_F29, LI_F29, RG_l29, RG_r29, TPRp_sF29, WNp_sF29, VMp_sF29, KYp_sF29, PPp_sF29, WFp_sF29, CCp_sF29, rk_n0 hp_2, Ks242, NBP, NBQ] at q274_1 q274_2 q274_3 q274_4 q274_5 q274_6 q274_7 q274_8 q274_9 e274_0 e274_1 e274_2 e274_3 e274_4 e274_5 e274_6 e274_7 e274_8 e274_9)
          have Ks274 : rR s274 7 = rR σ 7 := by first | assumption | ((try simp only [rR_sF, rR_sA, rR_sT, rR_sL] at e274_0 e274_1 e274_2 e274_3 e274_4 e274_5 e274_6 e274_7 e274_8 e274_9); omega)
          have zr274 := fz_rng s274
          have zc274 : fz s274 = 0 → fz s242 = 0 := fun hf => by omega
          have A274 : Im (fz s274 = 0) (RG σ s274 (rR σ 7) x1) := fun hf => RG.trk hp_2 (A242 (zc274 hf)) (q274_8 (by omega)) (Or.inr (Or.inl rfl))
          obtain ⟨g274, X274⟩ := q274_9
          have Ou1372 : Im (fz s274 = 0) _ := fun hf => OP.gk0 (Ou1302 (zc274 hf)) ((X274 hf).2.1)
          have Lu1373 : Im (fz s274 = 0) _ := fun hf => LI.gk0 hp_2 (Lu1303 (zc274 hf)) (Ou1302 (zc274 hf)) (q274_8 (by omega)) ((X274 hf).2.1)
          have O217u1374 : Im (fz s274 = 0) _ := fun hf => OP.gk0 (O217u1304 (zc274 hf)) ((X274 hf).2.1)
          have Ku1375 : Im (fz s274 = 0) (GK g g274 (rF σ (rR σ 7) 7) (rF s274 (rR σ 7) 7) x1) := fun hf => GK.trans (Ku1305 (zc274 hf)) ((X274 hf).2.1) (Or.inr (Or.inl rfl))
          have Gu1376 : Im (fz s274 = 0) (GS s274 (rR σ 7) g274) := fun hf => (X274 hf).1
          have r274 : Im (fz s274 = 0) _ := fun hf => (X274 hf).2.2.1
          have TPRp_274 := e274_0 TPRp_242; clear e274_0
          have CCp_274 := e274_1 CCp_242; clear e274_1
          refine ⟨(by (try simp only [Ks274]); (all_goals (repeat' (first | with_reducible intro _ | with_reducible apply And.intro | with_reducible refine Exists.intro g274 ?_ | with_reducible refine Im.and ?_ ?_))); all_goals (first | assumption | trivial | ((with_reducible refine Im.i fun hf_ => ?_); first | exact (A274 hf_) | exact (Gu1376 hf_) | exact (Ku1375 hf_) | exact (Ou1372 hf_).cst | exact (Lu1373 hf_) | exact (O217u1374 hf_).cst | exact (r274 hf_).cst | exact ok1.i | (exact LI.z (fun h => absurd h (by decide))) | (exact absurd hf_ (by omega)) | omega) | (unfold NBP; (try simp only [Ks274]); omega) | (unfold NBQ; (try simp only [Ks274]); omega) | omega | (have zz_ := fz_z (by assumption); omega) | (split <;> omega) | (exact fun hf_ => L_ (by omega)) | ((repeat' split) <;> omega) | done)), ?_⟩
          have A277 : Im (fz s274 = 0) (RG σ (sT s274 (rR σ 7) 2 v217 v274) (rR σ 7) x1) := fun hf => RG.tst (f := 2) (i := v217) (x := v274) hp_2 (A274 hf) (by decide) (by omega)
          obtain ⟨gs277, Xs277⟩ := EH_2_53 (P := fz s274 = 0) hp_2 Gu1376 O217u1374 r274 (fun _ h => h) (fun hf => by omega)
          have Ou1377 : Im (fz s274 = 0) _ := fun hf => OP.ks (ff := 2) (i := v217) (z := v274) (Ou1372 hf) (Xs277 hf).2.2.2.1 (by omega) (Xs277 hf).2.2.2.2.2.2
          have Lu1378 : Im (fz s274 = 0) _ := fun hf => LI.ks (ff := 2) (fi := v217) (z := v274) hp_2 (by decide) (Lu1373 hf) (Ou1372 hf) (Xs277 hf).2.2.2.1 (by omega) (Xs277 hf).2.2.2.2.1.2 (Xs277 hf).2.2.2.2.2 (fun h => absurd h (by decide))
          have Ku1379 : Im (fz s274 = 0) (GK g gs277 (rF σ (rR σ 7) 7) (rF s274 (rR σ 7) 7) x1) := fun hf => GK.ks (Ku1375 hf) (Xs277 hf).2.2.2.1 (by omega) (by omega)
          have Gu1380 : Im (fz s274 = 0) _ := fun hf => (Xs277 hf).1
          have O217u1381 : Im (fz s274 = 0) _ := fun hf => (Xs277 hf).2.1
          have L277u1382 : Im (fz s274 = 0) _ := fun hf => (Xs277 hf).2.2.1
          refine ⟨fun c297 => ?_, fun c297 => ?_⟩
          · refine ⟨(by (try simp only [reduceIte, and_true, true_and, and_false, false_and, and_self, Nat.reduceEqDiff, fz_sA, rF_sA, rA_sA, rR_sA, rF_sT, rR_sT, sT_sF, fz_sT, rA_sT26 hp_2, rA_sT27 hp_2, rA_sT34 hp_2, rA_sT35 hp_2, rA_sT36 hp_2, rA_sT37 hp_2, rA_sT40 hp_2, TPRp_sT hp_2, WNp_sT hp_2, VMp_sT hp_2, KYp_sT hp_2, PPp_sT hp_2, WFp_sT hp_2, CCp_sT hp_2, rNMp_sT2, PNp_sT2, rk_n0 hp_2, Ks274]); (all_goals (repeat' (first | with_reducible intro _ | with_reducible apply And.intro | with_reducible refine Exists.intro gs277 ?_ | with_reducible refine Im.and ?_ ?_))); all_goals (first | assumption | trivial | ((with_reducible refine Im.i fun hf_ => ?_); first | exact (A277 hf_) | exact (Gu1380 hf_) | exact (Ku1379 hf_) | exact (Ou1377 hf_).cst | exact (Lu1378 hf_) | exact (O217u1381 hf_).cst | exact (L277u1382 hf_) | exact ok1.i | (exact LI.z (fun h => absurd h (by decide))) | (exact absurd hf_ (by omega)) | omega) | (unfold NBP; (try simp only [reduceIte, and_true, true_and, and_false, false_and, and_self, Nat.reduceEqDiff, fz_sA, rF_sA, rA_sA, rR_sA, rF_sT, rR_sT, sT_sF, fz_sT, rA_sT26 hp_2, rA_sT27 hp_2, rA_sT34 hp_2, rA_sT35 hp_2, rA_sT36 hp_2, rA_sT37 hp_2, rA_sT40 hp_2, TPRp_sT hp_2, WNp_sT hp_2, VMp_sT hp_2, KYp_sT hp_2, PPp_sT hp_2, WFp_sT hp_2, CCp_sT hp_2, rNMp_sT2, PNp_sT2, rk_n0 hp_2, Ks274]); omega) | (unfold NBQ; (try simp only [reduceIte, and_true, true_and, and_false, false_and, and_self, Nat.reduceEqDiff, fz_sA, rF_sA, rA_sA, rR_sA, rF_sT, rR_sT, sT_sF, fz_sT, rA_sT26 hp_2, rA_sT27 hp_2, rA_sT34 hp_2, rA_sT35 hp_2, rA_sT36 hp_2, rA_sT37 hp_2, rA_sT40 hp_2, TPRp_sT hp_2, WNp_sT hp_2, VMp_sT hp_2, KYp_sT hp_2, PPp_sT hp_2, WFp_sT hp_2, CCp_sT hp_2, rNMp_sT2, PNp_sT2, rk_n0 hp_2, Ks274]); omega) | omega | (have zz_ := fz_z (by assumption); omega) | (split <;> omega) | (exact fun hf_ => L_ (by omega)) | ((repeat' split) <;> omega) | done)), ?_⟩
            obtain ⟨gu1383, Xu1384⟩ := EC_53 (P := fz s274 = 0) (rF s274 0 29) Gu1380 O217u1381 (fun hf => by omega)
            have Ou1385 : Im (fz s274 = 0) _ := fun hf => OP.kc (Ou1377 hf) (Xu1384 hf).2.2 (by omega)
            have Lu1386 : Im (fz s274 = 0) _ := fun hf => LI.kc (Lu1378 hf) (Xu1384 hf).2.2
            have O217u1387 : Im (fz s274 = 0) _ := fun hf => (Xu1384 hf).2.1
            have Ku1388 : Im (fz s274 = 0) (GK g gu1383 (rF σ (rR σ 7) 7) (rF s274 (rR σ 7) 7) x1) := fun hf => GK.kc (Ku1379 hf) (Xu1384 hf).2.2 (by omega)
            have Gu1389 : Im (fz s274 = 0) _ := fun hf => (Xu1384 hf).1
            have A324 : Im (fz s274 = 0) (RG σ (sT (sT s274 (rR σ 7) 2 v217 v274) (rR σ 7) 5 y148_2 v217) (rR σ 7) x1) := fun hf => RG.tst (f := 5) (i := y148_2) (x := v217) hp_2 (A277 hf) (by decide) (by omega)
            obtain ⟨gs324, Xs324⟩ := EA_2_4 (P := fz s274 = 0) hp_2 Gu1389 Ou1385 Lu1386 O217u1387 (fun _ h => h) (fun hf => by omega)
            have Ku1390 : Im (fz s274 = 0) (GK g gs324 (rF σ (rR σ 7) 7) (rF s274 (rR σ 7) 7) x1) := fun hf => GK.ks (Ku1388 hf) (Xs324 hf).2.2.2.1 (by omega) (by omega)
            have Gu1391 : Im (fz s274 = 0) _ := fun hf => (Xs324 hf).1
            have Ou1392 : Im (fz s274 = 0) _ := fun hf => (Xs324 hf).2.1
            have Lu1393 : Im (fz s274 = 0) _ := fun hf => (Xs324 hf).2.2.1
            refine ⟨(by (try simp only [pre_X14_blanks, reduceIte, and_true, true_and, and_false, false_and, and_self, Nat.reduceEqDiff, fz_sA, rF_sA, rA_sA, rR_sA, rF_sT, rR_sT, sT_sF, fz_sT, rA_sT26 hp_2, rA_sT27 hp_2, rA_sT34 hp_2, rA_sT35 hp_2, rA_sT36 hp_2, rA_sT37 hp_2, rA_sT40 hp_2, TPRp_sT hp_2, WNp_sT hp_2, VMp_sT hp_2, KYp_sT hp_2, PPp_sT hp_2, WFp_sT hp_2, CCp_sT hp_2, rNMp_sT2, PNp_sT2, rNMp_sT5, PNp_sT5, rk_n0 hp_2, Ks274]); (all_goals (repeat' (first | with_reducible intro _ | with_reducible apply And.intro | with_reducible refine Exists.intro gs324 ?_ | with_reducible refine Im.and ?_ ?_))); all_goals (first | assumption | trivial | ((with_reducible refine Im.i fun hf_ => ?_); first | exact (A324 hf_) | exact (Gu1391 hf_) | exact (Ku1390 hf_) | exact (Ou1392 hf_).cst | exact (Lu1393 hf_) | exact ok1.i | (exact LI.z (fun h => absurd h (by decide))) | (exact absurd hf_ (by omega)) | omega) | (unfold NBP; (try simp only [reduceIte, and_true, true_and, and_false, false_and, and_self, Nat.reduceEqDiff, fz_sA, rF_sA, rA_sA, rR_sA, rF_sT, rR_sT, sT_sF, fz_sT, rA_sT26 hp_2, rA_sT27 hp_2, rA_sT34 hp_2, rA_sT35 hp_2, rA_sT36 hp_2, rA_sT37 hp_2, rA_sT40 hp_2, TPRp_sT hp_2, WNp_sT hp_2, VMp_sT hp_2, KYp_sT hp_2, PPp_sT hp_2, WFp_sT hp_2, CCp_sT hp_2, rNMp_sT2, PNp_sT2, rNMp_sT5, PNp_sT5, rk_n0 hp_2, Ks274]); omega) | (unfold NBQ; (try simp only [reduceIte, and_true, true_and, and_false, false_and, and_self, Nat.reduceEqDiff, fz_sA, rF_sA, rA_sA, rR_sA, rF_sT, rR_sT, sT_sF, fz_sT, rA_sT26 hp_2, rA_sT27 hp_2, rA_sT34 hp_2, rA_sT35 hp_2, rA_sT36 hp_2, rA_sT37 hp_2, rA_sT40 hp_2, TPRp_sT hp_2, WNp_sT hp_2, VMp_sT hp_2, KYp_sT hp_2, PPp_sT hp_2, WFp_sT hp_2, CCp_sT hp_2, rNMp_sT2, PNp_sT2, rNMp_sT5, PNp_sT5, rk_n0 hp_2, Ks274]); omega) | omega | (have zz_ := fz_z (by assumption); omega) | (split <;> omega) | (exact fun hf_ => L_ (by omega)) | ((repeat' split) <;> omega) | done)), ?_⟩
            intro s329 Ws329 e329_0 e329_1 e329_2 e329_3 e329_4 e329_5 e329_6 e329_7 e329_8 e329_9 e329_10 e329_11 e329_12 e329_13 e329_14 e329_15 e329_16 e329_17 e329_18 e329_19 e329_20 e329_21 e329_22 R329 q329
            have q329 := dig_blanks q329 (by (try simp only [reduceIte, and_true, true_and, and_false, false_and, and_self, Nat.reduceEqDiff, fz_sA, rF_sA, rA_sA, rR_sA, rF_sT, rR_sT, sT_sF, fz_sT, rA_sT26 hp_2, rA_sT27 hp_2, rA_sT34 hp_2, rA_sT35 hp_2, rA_sT36 hp_2, rA_sT37 hp_2, rA_sT40 hp_2, TPRp_sT hp_2, WNp_sT hp_2, VMp_sT hp_2, KYp_sT hp_2, PPp_sT hp_2, WFp_sT hp_2, CCp_sT hp_2, rNMp_sT2, PNp_sT2, rNMp_sT5, PNp_sT5, rk_n0 hp_2, Ks274]); omega)
            obtain ⟨q329_1, q329_2⟩ := q329
            (try simp only [reduceIte, and_true, true_and, and_false, false_and, and_self, Nat.reduceEqDiff, fz_sA, rF_sA, rA_sA, rR_sA, rF_sT, rR_sT, sT_sF, fz_sT, rA_sT26 hp_2, rA_sT27 hp_2, rA_sT34 hp_2, rA_sT35 hp_2, rA_sT36 hp_2, rA_sT37 hp_2, rA_sT40 hp_2, TPRp_sT hp_2, WNp_sT hp_2, VMp_sT hp_2, KYp_sT hp_2, PPp_sT hp_2, WFp_sT hp_2, CCp_sT hp_2, rNMp_sT2, PNp_sT2, rNMp_sT5, PNp_sT5, rk_n0 hp_2, Ks274, NBP, NBQ] at q329_1 q329_2 e329_0 e329_1 e329_2 e329_3 e329_4 e329_5 e329_6 e329_7 e329_8 e329_9 e329_10 e329_11 e329_12 e329_13 e329_14 e329_15 e329_16 e329_17 e329_18 e329_19 e329_20 e329_21 e329_22 R329)
            have Ks329 : rR s329 7 = rR σ 7 := by first | assumption | ((try simp only [rR_sF, rR_sA, rR_sT, rR_sL] at e329_0 e329_1 e329_2 e329_3 e329_4 e329_5 e329_6 e329_7 e329_8 e329_9 e329_10 e329_11 e329_12 e329_13 e329_14 e329_15 e329_16 e329_17 e329_18 e329_19 e329_20 e329_21 e329_22 R329); omega)
            have zr329 := fz_rng s329
            have zc329 : fz s329 = 0 → fz s274 = 0 := fun hf => by omega
            have A329 : Im (fz s329 = 0) (RG σ s329 (rR σ 7) x1) := fun hf => RG.trk hp_2 (A324 (zc329 hf)) R329 (Or.inr (Or.inl rfl))
            have Ou1394 : Im (fz s329 = 0) _ := fun hf => OP.gk0 (Ou1392 (zc329 hf)) (GK.up (g := gs324) (N := rF (sT (sT s274 (rR σ 7) 2 v217 v274) (rR σ 7) 5 y148_2 v217) (rR σ 7) 7) (N' := rF s329 (rR σ 7) 7) (c := 0) (by first | assumption | omega | (simp only [rF_sT, rF_sA]; omega)))
            have Lu1395 : Im (fz s329 = 0) _ := fun hf => LI.gk0 hp_2 (Lu1393 (zc329 hf)) (Ou1392 (zc329 hf)) R329 (GK.up (g := gs324) (N := rF (sT (sT s274 (rR σ 7) 2 v217 v274) (rR σ 7) 5 y148_2 v217) (rR σ 7) 7) (N' := rF s329 (rR σ 7) 7) (c := 0) (by first | assumption | omega | (simp only [rF_sT, rF_sA]; omega)))
            have Ku1396 : Im (fz s329 = 0) (GK g gs324 (rF σ (rR σ 7) 7) (rF s329 (rR σ 7) 7) x1) := fun hf => GK.trans (Ku1390 (zc329 hf)) (GK.up (N := rF (sT (sT s274 (rR σ 7) 2 v217 v274) (rR σ 7) 5 y148_2 v217) (rR σ 7) 7) (N' := rF s329 (rR σ 7) 7) (c := 0) (by first | assumption | omega | (simp only [rF_sT, rF_sA]; omega))) (Or.inr (Or.inl rfl))
            have Gu1397 : Im (fz s329 = 0) (GS s329 (rR σ 7) gs324) := fun hf => GS.mv hp_2 (Gu1391 (zc329 hf)) R329 (by first | assumption | omega | (simp only [rF_sT, rF_sA]; omega)) (by first | (exact Int.le_of_eq (Eq.symm (by assumption))) | omega | (simp only [rF_sT, rF_sA]; omega))
            have rNMp_329 := e329_0 q274_2; clear e329_0
            have TPRp_329 := e329_1 TPRp_274; clear e329_1
            have WNp_329 := e329_2 q274_3; clear e329_2
            have PNp_329 := e329_3 q274_4; clear e329_3
            have CCp_329 := e329_4 CCp_274; clear e329_4
            refine ⟨(by (try simp only [pre_X14_here, Ks329]); (all_goals (repeat' (first | with_reducible intro _ | with_reducible apply And.intro | with_reducible refine Exists.intro gs324 ?_ | with_reducible refine Im.and ?_ ?_))); all_goals (first | assumption | trivial | ((with_reducible refine Im.i fun hf_ => ?_); first | exact (A329 hf_) | exact (Gu1397 hf_) | exact (Ku1396 hf_) | exact (Ou1394 hf_).cst | exact (Lu1395 hf_) | exact ok1.i | (exact LI.z (fun h => absurd h (by decide))) | (exact absurd hf_ (by omega)) | omega) | (unfold NBP; (try simp only [Ks329]); omega) | (unfold NBQ; (try simp only [Ks329]); omega) | omega | (have zz_ := fz_z (by assumption); omega) | (split <;> omega) | (exact fun hf_ => L_ (by omega)) | ((repeat' split) <;> omega) | done)), ?_⟩
            intro v333 hv333 q333
            unfold rng at hv333
            unfold post_X14_here at q333
            obtain ⟨q333_1, q333_2⟩ := q333
            (try simp only [Ks329, NBP, NBQ] at q333_1 q333_2)
            refine ⟨fun c338 => ?_, fun c338 => ?_⟩
            · exact (by (try simp only [inv_X14_readOptions_25, mu_X14_readOptions_25, Ks329]); (all_goals (repeat' (first | with_reducible intro _ | with_reducible apply And.intro | with_reducible refine Exists.intro gs324 ?_ | with_reducible refine Im.and ?_ ?_))); all_goals (first | assumption | trivial | ((with_reducible refine Im.i fun hf_ => ?_); first | exact (A329 hf_) | exact (Gu1397 hf_) | exact (Ku1396 hf_) | exact (Ou1394 hf_).cst | exact (Lu1395 hf_) | exact ok1.i | (exact LI.z (fun h => absurd h (by decide))) | (exact absurd hf_ (by omega)) | omega) | (unfold NBP; (try simp only [Ks329]); omega) | (unfold NBQ; (try simp only [Ks329]); omega) | omega | (have zz_ := fz_z (by assumption); omega) | (split <;> omega) | (exact fun hf_ => L_ (by omega)) | ((repeat' split) <;> omega) | done))
            · exact (by (try simp only [inv_X14_readOptions_25, mu_X14_readOptions_25, Ks329]); (all_goals (repeat' (first | with_reducible intro _ | with_reducible apply And.intro | with_reducible refine Exists.intro gs324 ?_ | with_reducible refine Im.and ?_ ?_))); all_goals (first | assumption | trivial | ((with_reducible refine Im.i fun hf_ => ?_); first | exact (A329 hf_) | exact (Gu1397 hf_) | exact (Ku1396 hf_) | exact (Ou1394 hf_).cst | exact (Lu1395 hf_) | exact ok1.i | (exact LI.z (fun h => absurd h (by decide))) | (exact absurd hf_ (by omega)) | omega) | (unfold NBP; (try simp only [Ks329]); omega) | (unfold NBQ; (try simp only [Ks329]); omega) | omega | (have zz_ := fz_z (by assumption); omega) | (split <;> omega) | (exact fun hf_ => L_ (by omega)) | ((repeat' split) <;> omega) | done))
          · refine ⟨(by (try simp only [reduceIte, and_true, true_and, and_false, false_and, and_self, Nat.reduceEqDiff, fz_sA, rF_sA, rA_sA, rR_sA, rF_sT, rR_sT, sT_sF, fz_sT, rA_sT26 hp_2, rA_sT27 hp_2, rA_sT34 hp_2, rA_sT35 hp_2, rA_sT36 hp_2, rA_sT37 hp_2, rA_sT40 hp_2, TPRp_sT hp_2, WNp_sT hp_2, VMp_sT hp_2, KYp_sT hp_2, PPp_sT hp_2, WFp_sT hp_2, CCp_sT hp_2, rNMp_sT2, PNp_sT2, rk_n0 hp_2, Ks274]); (all_goals (repeat' (first | with_reducible intro _ | with_reducible apply And.intro | with_reducible refine Exists.intro gs277 ?_ | with_reducible refine Im.and ?_ ?_))); all_goals (first | assumption | trivial | ((with_reducible refine Im.i fun hf_ => ?_); first | exact (A277 hf_) | exact (Gu1380 hf_) | exact (Ku1379 hf_) | exact (Ou1377 hf_).cst | exact (Lu1378 hf_) | exact (O217u1381 hf_).cst | exact (L277u1382 hf_) | exact ok1.i | (exact LI.z (fun h => absurd h (by decide))) | (exact absurd hf_ (by omega)) | omega) | (unfold NBP; (try simp only [reduceIte, and_true, true_and, and_false, false_and, and_self, Nat.reduceEqDiff, fz_sA, rF_sA, rA_sA, rR_sA, rF_sT, rR_sT, sT_sF, fz_sT, rA_sT26 hp_2, rA_sT27 hp_2, rA_sT34 hp_2, rA_sT35 hp_2, rA_sT36 hp_2, rA_sT37 hp_2, rA_sT40 hp_2, TPRp_sT hp_2, WNp_sT hp_2, VMp_sT hp_2, KYp_sT hp_2, PPp_sT hp_2, WFp_sT hp_2, CCp_sT hp_2, rNMp_sT2, PNp_sT2, rk_n0 hp_2, Ks274]); omega) | (unfold NBQ; (try simp only [reduceIte, and_true, true_and, and_false, false_and, and_self, Nat.reduceEqDiff, fz_sA, rF_sA, rA_sA, rR_sA, rF_sT, rR_sT, sT_sF, fz_sT, rA_sT26 hp_2, rA_sT27 hp_2, rA_sT34 hp_2, rA_sT35 hp_2, rA_sT36 hp_2, rA_sT37 hp_2, rA_sT40 hp_2, TPRp_sT hp_2, WNp_sT hp_2, VMp_sT hp_2, KYp_sT hp_2, PPp_sT hp_2, WFp_sT hp_2, CCp_sT hp_2, rNMp_sT2, PNp_sT2, rk_n0 hp_2, Ks274]); omega) | omega | (have zz_ := fz_z (by assumption); omega) | (split <;> omega) | (exact fun hf_ => L_ (by omega)) | ((repeat' split) <;> omega) | done)), ?_⟩
            obtain ⟨gu1398, Xu1399⟩ := EC_53 (P := fz s274 = 0) (rF s274 0 29) Gu1380 O217u1381 (fun hf => by omega)
            have Ou1400 : Im (fz s274 = 0) _ := fun hf => OP.kc (Ou1377 hf) (Xu1399 hf).2.2 (by omega)
            have Lu1401 : Im (fz s274 = 0) _ := fun hf => LI.kc (Lu1378 hf) (Xu1399 hf).2.2
            have O217u1402 : Im (fz s274 = 0) _ := fun hf => (Xu1399 hf).2.1
            have Ku1403 : Im (fz s274 = 0) (GK g gu1398 (rF σ (rR σ 7) 7) (rF s274 (rR σ 7) 7) x1) := fun hf => GK.kc (Ku1379 hf) (Xu1399 hf).2.2 (by omega)
            have Gu1404 : Im (fz s274 = 0) _ := fun hf => (Xu1399 hf).1
            have A310 : Im (fz s274 = 0) (RG σ (sT (sT s274 (rR σ 7) 2 v217 v274) (rR σ 7) 2 x1 v217) (rR σ 7) x1) := fun hf => RG.tst (f := 2) (i := x1) (x := v217) hp_2 (A277 hf) (by decide) (by omega)
            obtain ⟨gs310, Xs310⟩ := EH_2_4 (P := fz s274 = 0) hp_2 Gu1404 Ou1400 O217u1402 (fun _ h => h) (fun hf => by omega)
            have Ku1405 : Im (fz s274 = 0) (GK g gs310 (rF σ (rR σ 7) 7) (rF s274 (rR σ 7) 7) x1) := fun hf => GK.ks (Ku1403 hf) (Xs310 hf).2.2.2.1 (by omega) (by omega)
            have Gu1406 : Im (fz s274 = 0) _ := fun hf => (Xs310 hf).1
            have Ou1407 : Im (fz s274 = 0) _ := fun hf => (Xs310 hf).2.1
            have Lu1408 : Im (fz s274 = 0) _ := fun hf => (Xs310 hf).2.2.1
            refine ⟨(by (try simp only [pre_X14_blanks, reduceIte, and_true, true_and, and_false, false_and, and_self, Nat.reduceEqDiff, fz_sA, rF_sA, rA_sA, rR_sA, rF_sT, rR_sT, sT_sF, fz_sT, rA_sT26 hp_2, rA_sT27 hp_2, rA_sT34 hp_2, rA_sT35 hp_2, rA_sT36 hp_2, rA_sT37 hp_2, rA_sT40 hp_2, TPRp_sT hp_2, WNp_sT hp_2, VMp_sT hp_2, KYp_sT hp_2, PPp_sT hp_2, WFp_sT hp_2, CCp_sT hp_2, rNMp_sT2, PNp_sT2, rk_n0 hp_2, Ks274]); (all_goals (repeat' (first | with_reducible intro _ | with_reducible apply And.intro | with_reducible refine Exists.intro gs310 ?_ | with_reducible refine Im.and ?_ ?_))); all_goals (first | assumption | trivial | ((with_reducible refine Im.i fun hf_ => ?_); first | exact (A310 hf_) | exact (Gu1406 hf_) | exact (Ku1405 hf_) | exact (Ou1407 hf_).cst | exact (Lu1408 hf_) | exact ok1.i | (exact LI.z (fun h => absurd h (by decide))) | (exact absurd hf_ (by omega)) | omega) | (unfold NBP; (try simp only [reduceIte, and_true, true_and, and_false, false_and, and_self, Nat.reduceEqDiff, fz_sA, rF_sA, rA_sA, rR_sA, rF_sT, rR_sT, sT_sF, fz_sT, rA_sT26 hp_2, rA_sT27 hp_2, rA_sT34 hp_2, rA_sT35 hp_2, rA_sT36 hp_2, rA_sT37 hp_2, rA_sT40 hp_2, TPRp_sT hp_2, WNp_sT hp_2, VMp_sT hp_2, KYp_sT hp_2, PPp_sT hp_2, WFp_sT hp_2, CCp_sT hp_2, rNMp_sT2, PNp_sT2, rk_n0 hp_2, Ks274]); omega) | (unfold NBQ; (try simp only [reduceIte, and_true, true_and, and_false, false_and, and_self, Nat.reduceEqDiff, fz_sA, rF_sA, rA_sA, rR_sA, rF_sT, rR_sT, sT_sF, fz_sT, rA_sT26 hp_2, rA_sT27 hp_2, rA_sT34 hp_2, rA_sT35 hp_2, rA_sT36 hp_2, rA_sT37 hp_2, rA_sT40 hp_2, TPRp_sT hp_2, WNp_sT hp_2, VMp_sT hp_2, KYp_sT hp_2, PPp_sT hp_2, WFp_sT hp_2, CCp_sT hp_2, rNMp_sT2, PNp_sT2, rk_n0 hp_2, Ks274]); omega) | omega | (have zz_ := fz_z (by assumption); omega) | (split <;> omega) | (exact fun hf_ => L_ (by omega)) | ((repeat' split) <;> omega) | done)), ?_⟩
            intro s329 Ws329 e329_0 e329_1 e329_2 e329_3 e329_4 e329_5 e329_6 e329_7 e329_8 e329_9 e329_10 e329_11 e329_12 e329_13 e329_14 e329_15 e329_16 e329_17 e329_18 e329_19 e329_20 e329_21 e329_22 R329 q329
            have q329 := dig_blanks q329 (by (try simp only [reduceIte, and_true, true_and, and_false, false_and, and_self, Nat.reduceEqDiff, fz_sA, rF_sA, rA_sA, rR_sA, rF_sT, rR_sT, sT_sF, fz_sT, rA_sT26 hp_2, rA_sT27 hp_2, rA_sT34 hp_2, rA_sT35 hp_2, rA_sT36 hp_2, rA_sT37 hp_2, rA_sT40 hp_2, TPRp_sT hp_2, WNp_sT hp_2, VMp_sT hp_2, KYp_sT hp_2, PPp_sT hp_2, WFp_sT hp_2, CCp_sT hp_2, rNMp_sT2, PNp_sT2, rk_n0 hp_2, Ks274]); omega)
            obtain ⟨q329_1, q329_2⟩ := q329
            (try simp only [reduceIte, and_true, true_and, and_false, false_and, and_self, Nat.reduceEqDiff, fz_sA, rF_sA, rA_sA, rR_sA, rF_sT, rR_sT, sT_sF, fz_sT, rA_sT26 hp_2, rA_sT27 hp_2, rA_sT34 hp_2, rA_sT35 hp_2, rA_sT36 hp_2, rA_sT37 hp_2, rA_sT40 hp_2, TPRp_sT hp_2, WNp_sT hp_2, VMp_sT hp_2, KYp_sT hp_2, PPp_sT hp_2, WFp_sT hp_2, CCp_sT hp_2, rNMp_sT2, PNp_sT2, rk_n0 hp_2, Ks274, NBP, NBQ] at q329_1 q329_2 e329_0 e329_1 e329_2 e329_3 e329_4 e329_5 e329_6 e329_7 e329_8 e329_9 e329_10 e329_11 e329_12 e329_13 e329_14 e329_15 e329_16 e329_17 e329_18 e329_19 e329_20 e329_21 e329_22 R329)
            have Ks329 : rR s329 7 = rR σ 7 := by first | assumption | ((try simp only [rR_sF, rR_sA, rR_sT, rR_sL] at e329_0 e329_1 e329_2 e329_3 e329_4 e329_5 e329_6 e329_7 e329_8 e329_9 e329_10 e329_11 e329_12 e329_13 e329_14 e329_15 e329_16 e329_17 e329_18 e329_19 e329_20 e329_21 e329_22 R329); omega)
            have zr329 := fz_rng s329
            have zc329 : fz s329 = 0 → fz s274 = 0 := fun hf => by omega
            have A329 : Im (fz s329 = 0) (RG σ s329 (rR σ 7) x1) := fun hf => RG.trk hp_2 (A310 (zc329 hf)) R329 (Or.inr (Or.inl rfl))
            have Ou1409 : Im (fz s329 = 0) _ := fun hf => OP.gk0 (Ou1407 (zc329 hf)) (GK.up (g := gs310) (N := rF (sT (sT s274 (rR σ 7) 2 v217 v274) (rR σ 7) 2 x1 v217) (rR σ 7) 7) (N' := rF s329 (rR σ 7) 7) (c := 0) (by first | assumption | omega | (simp only [rF_sT, rF_sA]; omega)))
            have Lu1410 : Im (fz s329 = 0) _ := fun hf => LI.gk0 hp_2 (Lu1408 (zc329 hf)) (Ou1407 (zc329 hf)) R329 (GK.up (g := gs310) (N := rF (sT (sT s274 (rR σ 7) 2 v217 v274) (rR σ 7) 2 x1 v217) (rR σ 7) 7) (N' := rF s329 (rR σ 7) 7) (c := 0) (by first | assumption | omega | (simp only [rF_sT, rF_sA]; omega)))
            have Ku1411 : Im (fz s329 = 0) (GK g gs310 (rF σ (rR σ 7) 7) (rF s329 (rR σ 7) 7) x1) := fun hf => GK.trans (Ku1405 (zc329 hf)) (GK.up (N := rF (sT (sT s274 (rR σ 7) 2 v217 v274) (rR σ 7) 2 x1 v217) (rR σ 7) 7) (N' := rF s329 (rR σ 7) 7) (c := 0) (by first | assumption | omega | (simp only [rF_sT, rF_sA]; omega))) (Or.inr (Or.inl rfl))
            have Gu1412 : Im (fz s329 = 0) (GS s329 (rR σ 7) gs310) := fun hf => GS.mv hp_2 (Gu1406 (zc329 hf)) R329 (by first | assumption | omega | (simp only [rF_sT, rF_sA]; omega)) (by first | (exact Int.le_of_eq (Eq.symm (by assumption))) | omega | (simp only [rF_sT, rF_sA]; omega))
            have rNMp_329 := e329_0 q274_2; clear e329_0
            have TPRp_329 := e329_1 TPRp_274; clear e329_1
            have WNp_329 := e329_2 q274_3; clear e329_2
            have PNp_329 := e329_3 q274_4; clear e329_3
            have CCp_329 := e329_4 CCp_274; clear e329_4
            refine ⟨(by (try simp only [pre_X14_here, Ks329]); (all_goals (repeat' (first | with_reducible intro _ | with_reducible apply And.intro | with_reducible refine Exists.intro gs310 ?_ | with_reducible refine Im.and ?_ ?_))); all_goals (first | assumption | trivial | ((with_reducible refine Im.i fun hf_ => ?_); first | exact (A329 hf_) | exact (Gu1412 hf_) | exact (Ku1411 hf_) | exact (Ou1409 hf_).cst | exact (Lu1410 hf_) | exact ok1.i | (exact LI.z (fun h => absurd h (by decide))) | (exact absurd hf_ (by omega)) | omega) | (unfold NBP; (try simp only [Ks329]); omega) | (unfold NBQ; (try simp only [Ks329]); omega) | omega | (have zz_ := fz_z (by assumption); omega) | (split <;> omega) | (exact fun hf_ => L_ (by omega)) | ((repeat' split) <;> omega) | done)), ?_⟩
            intro v333 hv333 q333
            unfold rng at hv333
            unfold post_X14_here at q333
            obtain ⟨q333_1, q333_2⟩ := q333
            (try simp only [Ks329, NBP, NBQ] at q333_1 q333_2)
            refine ⟨fun c338 => ?_, fun c338 => ?_⟩
            · exact (by (try simp only [inv_X14_readOptions_25, mu_X14_readOptions_25, Ks329]); (all_goals (repeat' (first | with_reducible intro _ | with_reducible apply And.intro | with_reducible refine Exists.intro gs310 ?_ | with_reducible refine Im.and ?_ ?_))); all_goals (first | assumption | trivial | ((with_reducible refine Im.i fun hf_ => ?_); first | exact (A329 hf_) | exact (Gu1412 hf_) | exact (Ku1411 hf_) | exact (Ou1409 hf_).cst | exact (Lu1410 hf_) | exact ok1.i | (exact LI.z (fun h => absurd h (by decide))) | (exact absurd hf_ (by omega)) | omega) | (unfold NBP; (try simp only [Ks329]); omega) | (unfold NBQ; (try simp only [Ks329]); omega) | omega | (have zz_ := fz_z (by assumption); omega) | (split <;> omega) | (exact fun hf_ => L_ (by omega)) | ((repeat' split) <;> omega) | done))
            · exact (by (try simp only [inv_X14_readOptions_25, mu_X14_readOptions_25, Ks329]); (all_goals (repeat' (first | with_reducible intro _ | with_reducible apply And.intro | with_reducible refine Exists.intro gs310 ?_ | with_reducible refine Im.and ?_ ?_))); all_goals (first | assumption | trivial | ((with_reducible refine Im.i fun hf_ => ?_); first | exact (A329 hf_) | exact (Gu1412 hf_) | exact (Ku1411 hf_) | exact (Ou1409 hf_).cst | exact (Lu1410 hf_) | exact ok1.i | (exact LI.z (fun h => absurd h (by decide))) | (exact absurd hf_ (by omega)) | omega) | (unfold NBP; (try simp only [Ks329]); omega) | (unfold NBQ; (try simp only [Ks329]); omega) | omega | (have zz_ := fz_z (by assumption); omega) | (split <;> omega) | (exact fun hf_ => L_ (by omega)) | ((repeat' split) <;> omega) | done))
      · have z203 := fz_n c203
        exact (by (try simp only [post_X14_readOptions, Ks148]); (all_goals (repeat' (first | with_reducible intro _ | with_reducible apply And.intro | with_reducible refine Exists.intro g148 ?_ | with_reducible refine Im.and ?_ ?_))); all_goals (first | assumption | trivial | ((with_reducible refine Im.i fun hf_ => ?_); first | exact (I148_13 hf_) | exact (G148 hf_) | exact (KA148 hf_) | exact (O148 hf_).cst | exact (L148 hf_) | exact ok1.i | (exact LI.z (fun h => absurd h (by decide))) | (exact absurd hf_ (by omega)) | omega) | (unfold NBP; (try simp only [Ks148]); omega) | (unfold NBQ; (try simp only [Ks148]); omega) | omega | (have zz_ := fz_z (by assumption); omega) | (split <;> omega) | (exact fun hf_ => L_ (by omega)) | ((repeat' split) <;> omega) | done))
    · have z157 := fz_z c157
      have Y0_ := RW148 (by omega)
      refine ⟨(by (try simp only [Ks148]); (all_goals (repeat' (first | with_reducible intro _ | with_reducible apply And.intro | with_reducible refine Exists.intro g148 ?_ | with_reducible refine Im.and ?_ ?_))); all_goals (first | assumption | trivial | ((with_reducible refine Im.i fun hf_ => ?_); first | exact (I148_13 hf_) | exact (G148 hf_) | exact (KA148 hf_) | exact (O148 hf_).cst | exact (L148 hf_) | exact ok1.i | (exact LI.z (fun h => absurd h (by decide))) | (exact absurd hf_ (by omega)) | omega) | (unfold NBP; (try simp only [Ks148]); omega) | (unfold NBQ; (try simp only [Ks148]); omega) | omega | (have zz_ := fz_z (by assumption); omega) | (split <;> omega) | (exact fun hf_ => L_ (by omega)) | ((repeat' split) <;> omega) | done)), ?_⟩
      intro hr_; unfold rng at hr_
      refine ⟨fun c172 => ?_, fun c172 => ?_⟩
      · refine ⟨(by (try simp only [Ks148]); (all_goals (repeat' (first | with_reducible intro _ | with_reducible apply And.intro | with_reducible refine Exists.intro g148 ?_ | with_reducible refine Im.and ?_ ?_))); all_goals (first | assumption | trivial | ((with_reducible refine Im.i fun hf_ => ?_); first | exact (I148_13 hf_) | exact (G148 hf_) | exact (KA148 hf_) | exact (O148 hf_).cst | exact (L148 hf_) | exact ok1.i | (exact LI.z (fun h => absurd h (by decide))) | (exact absurd hf_ (by omega)) | omega) | (unfold NBP; (try simp only [Ks148]); omega) | (unfold NBQ; (try simp only [Ks148]); omega) | omega | (have zz_ := fz_z (by assumption); omega) | (split <;> omega) | (exact fun hf_ => L_ (by omega)) | ((repeat' split) <;> omega) | done)), ?_⟩
        intro hr_; unfold rng at hr_
        have n_ : Im (fz s148 = 0) ((rA s148 (1000 * ((rR σ 7) + 1) + 5) y148_5) = tr s148 (rR σ 7) 5 y148_5) := fun hf => tr_rd hp_2 (Or.inl (by decide))
        have M_ : Im (fz s148 = 0) ((rA s148 (1000 * ((rR σ 7) + 1) + 5) y148_5) = 0 ∨ y148_5 < (rA s148 (1000 * ((rR σ 7) + 1) + 5) y148_5) ∧ (rA s148 (1000 * ((rR σ 7) + 1) + 5) y148_5) < rF s148 (rR σ 7) 7 ∧ g148 3 (rA s148 (1000 * ((rR σ 7) + 1) + 5) y148_5) = x1 ∧ g148 8 (rA s148 (1000 * ((rR σ 7) + 1) + 5) y148_5) = 2) := fun hf => by have Y_ : 0 < y148_5 ∧ y148_5 < rF s148 (rR σ 7) 7 ∧ g148 3 y148_5 = x1 ∧ g148 8 y148_5 = 2 := (by omega)
        rw [n_ hf]; exact (GS.nxt (f := 2) (K := 4) (G148 (by omega)) Y_.1 Y_.2.1 Y_.2.2.1 Y_.2.2.2 (by omega) (O148 (by omega)).2.2.1).2
        have L_ : Im (fz s148 = 0) ((rA s148 (1000 * ((rR σ 7) + 1) + 5) y148_5) = 0 ∨ 0 < (rA s148 (1000 * ((rR σ 7) + 1) + 5) y148_5) ∧ (rA s148 (1000 * ((rR σ 7) + 1) + 5) y148_5) < rF s148 (rR σ 7) 7 ∧ g148 3 (rA s148 (1000 * ((rR σ 7) + 1) + 5) y148_5) = x1 ∧ g148 8 (rA s148 (1000 * ((rR σ 7) + 1) + 5) y148_5) = 2) := fun hf => by have := M_ hf; omega
        have B_ : fz s148 = 1 ∨ (rA s148 (1000 * ((rR σ 7) + 1) + 5) y148_5) = 0 ∨ y148_5 < (rA s148 (1000 * ((rR σ 7) + 1) + 5) y148_5) ∧ (rA s148 (1000 * ((rR σ 7) + 1) + 5) y148_5) < 60000 := by rcases fz_01 s148 with z_ | z_; exact Or.inr (by have := M_ z_; omega); exact Or.inl z_
        exact (by (try simp only [inv_X14_readOptions_148, mu_X14_readOptions_148, mu_X14_readOptions_148, Ks148]); (all_goals (repeat' (first | with_reducible intro _ | with_reducible apply And.intro | with_reducible refine Exists.intro g148 ?_ | with_reducible refine Im.and ?_ ?_))); all_goals (first | assumption | trivial | ((with_reducible refine Im.i fun hf_ => ?_); first | exact (I148_13 hf_) | exact (G148 hf_) | exact (KA148 hf_) | exact (O148 hf_).cst | exact (L148 hf_) | exact ok1.i | (exact LI.z (fun h => absurd h (by decide))) | (exact absurd hf_ (by omega)) | omega) | (unfold NBP; (try simp only [Ks148]); omega) | (unfold NBQ; (try simp only [Ks148]); omega) | omega | (have zz_ := fz_z (by assumption); omega) | (split <;> omega) | (exact fun hf_ => L_ (by omega)) | ((repeat' split) <;> omega) | done))
      · refine ⟨(by (try simp only [pre_X14_place, Ks148]); (all_goals (repeat' (first | with_reducible intro _ | with_reducible apply And.intro | with_reducible refine Exists.intro g148 ?_ | with_reducible refine Im.and ?_ ?_))); all_goals (first | assumption | trivial | ((with_reducible refine Im.i fun hf_ => ?_); first | exact (I148_13 hf_) | exact (G148 hf_) | exact (KA148 hf_) | exact (O148 hf_).cst | exact (L148 hf_) | exact ok1.i | (exact LI.z (fun h => absurd h (by decide))) | (exact absurd hf_ (by omega)) | omega) | (unfold NBP; (try simp only [Ks148]); omega) | (unfold NBQ; (try simp only [Ks148]); omega) | omega | (have zz_ := fz_z (by assumption); omega) | (split <;> omega) | (exact fun hf_ => L_ (by omega)) | ((repeat' split) <;> omega) | done)), ?_⟩
        intro v178 hv178 q178
        unfold rng at hv178
        unfold post_X14_place at q178
        obtain ⟨q178_1, q178_2⟩ := q178
        (try simp only [Ks148, NBP, NBQ] at q178_1 q178_2)
        refine ⟨(by (try simp only [pre_X14_bad, Ks148]); (all_goals (repeat' (first | with_reducible intro _ | with_reducible apply And.intro | with_reducible refine Exists.intro g148 ?_ | with_reducible refine Im.and ?_ ?_))); all_goals (first | assumption | trivial | ((with_reducible refine Im.i fun hf_ => ?_); first | exact (I148_13 hf_) | exact (G148 hf_) | exact (KA148 hf_) | exact (O148 hf_).cst | exact (L148 hf_) | exact ok1.i | (exact LI.z (fun h => absurd h (by decide))) | (exact absurd hf_ (by omega)) | omega) | (unfold NBP; (try simp only [Ks148]); omega) | (unfold NBQ; (try simp only [Ks148]); omega) | omega | (have zz_ := fz_z (by assumption); omega) | (split <;> omega) | (exact fun hf_ => L_ (by omega)) | ((repeat' split) <;> omega) | done)), ?_⟩
        intro s181 Ws181 e181_0 e181_1 e181_2 e181_3 e181_4 e181_5 e181_6 e181_7 e181_8 e181_9 e181_10 e181_11 e181_12 e181_13 e181_14 e181_15 e181_16 e181_17 e181_18 e181_19 e181_20 e181_21 R181 q181
        have q181 := dig_bad q181 (by (try simp only [Ks148]); omega)
        obtain ⟨q181_1, q181_2⟩ := q181
        (try simp only [Ks148, NBP, NBQ] at q181_1 q181_2 e181_0 e181_1 e181_2 e181_3 e181_4 e181_5 e181_6 e181_7 e181_8 e181_9 e181_10 e181_11 e181_12 e181_13 e181_14 e181_15 e181_16 e181_17 e181_18 e181_19 e181_20 e181_21 R181)
        have Ks181 : rR s181 7 = rR σ 7 := by first | assumption | ((try simp only [rR_sF, rR_sA, rR_sT, rR_sL] at e181_0 e181_1 e181_2 e181_3 e181_4 e181_5 e181_6 e181_7 e181_8 e181_9 e181_10 e181_11 e181_12 e181_13 e181_14 e181_15 e181_16 e181_17 e181_18 e181_19 e181_20 e181_21 R181); omega)
        have zr181 := fz_rng s181
        have zc181 : fz s181 = 0 → fz s148 = 0 := fun hf => by omega
        have A181 : Im (fz s181 = 0) (RG σ s181 (rR σ 7) x1) := fun hf => RG.trk hp_2 (I148_13 (zc181 hf)) R181 (Or.inr (Or.inl rfl))
        have Ou1413 : Im (fz s181 = 0) _ := fun hf => OP.gk0 (O148 (zc181 hf)) (GK.up (g := g148) (N := rF s148 (rR σ 7) 7) (N' := rF s181 (rR σ 7) 7) (c := 0) (by first | assumption | omega | (simp only [rF_sT, rF_sA]; omega)))
        have Lu1414 : Im (fz s181 = 0) _ := fun hf => LI.gk0 hp_2 (L148 (zc181 hf)) (O148 (zc181 hf)) R181 (GK.up (g := g148) (N := rF s148 (rR σ 7) 7) (N' := rF s181 (rR σ 7) 7) (c := 0) (by first | assumption | omega | (simp only [rF_sT, rF_sA]; omega)))
        have Ku1415 : Im (fz s181 = 0) (GK g g148 (rF σ (rR σ 7) 7) (rF s181 (rR σ 7) 7) x1) := fun hf => GK.trans (KA148 (zc181 hf)) (GK.up (N := rF s148 (rR σ 7) 7) (N' := rF s181 (rR σ 7) 7) (c := 0) (by first | assumption | omega | (simp only [rF_sT, rF_sA]; omega))) (Or.inr (Or.inl rfl))
        have Gu1416 : Im (fz s181 = 0) (GS s181 (rR σ 7) g148) := fun hf => GS.mv hp_2 (G148 (zc181 hf)) R181 (by first | assumption | omega | (simp only [rF_sT, rF_sA]; omega)) (by first | (exact Int.le_of_eq (Eq.symm (by assumption))) | omega | (simp only [rF_sT, rF_sA]; omega))
        have rNMp_181 := e181_0 I148_2; clear e181_0
        have TPRp_181 := e181_1 TPRp_148; clear e181_1
        have WNp_181 := e181_2 I148_3; clear e181_2
        have PNp_181 := e181_3 I148_4; clear e181_3
        have CCp_181 := e181_4 CCp_148; clear e181_4
        refine ⟨(by (try simp only [Ks181]); (all_goals (repeat' (first | with_reducible intro _ | with_reducible apply And.intro | with_reducible refine Exists.intro g148 ?_ | with_reducible refine Im.and ?_ ?_))); all_goals (first | assumption | trivial | ((with_reducible refine Im.i fun hf_ => ?_); first | exact (A181 hf_) | exact (Gu1416 hf_) | exact (Ku1415 hf_) | exact (Ou1413 hf_).cst | exact (Lu1414 hf_) | exact ok1.i | (exact LI.z (fun h => absurd h (by decide))) | (exact absurd hf_ (by omega)) | omega) | (unfold NBP; (try simp only [Ks181]); omega) | (unfold NBQ; (try simp only [Ks181]); omega) | omega | (have zz_ := fz_z (by assumption); omega) | (split <;> omega) | (exact fun hf_ => L_ (by omega)) | ((repeat' split) <;> omega) | done)), ?_⟩
        intro hr_; unfold rng at hr_
        have n_ : Im (fz s181 = 0) ((rA s181 (1000 * ((rR σ 7) + 1) + 5) y148_5) = tr s181 (rR σ 7) 5 y148_5) := fun hf => tr_rd hp_2 (Or.inl (by decide))
        have M_ : Im (fz s181 = 0) ((rA s181 (1000 * ((rR σ 7) + 1) + 5) y148_5) = 0 ∨ y148_5 < (rA s181 (1000 * ((rR σ 7) + 1) + 5) y148_5) ∧ (rA s181 (1000 * ((rR σ 7) + 1) + 5) y148_5) < rF s181 (rR σ 7) 7 ∧ g148 3 (rA s181 (1000 * ((rR σ 7) + 1) + 5) y148_5) = x1 ∧ g148 8 (rA s181 (1000 * ((rR σ 7) + 1) + 5) y148_5) = 2) := fun hf => by have Y_ : 0 < y148_5 ∧ y148_5 < rF s181 (rR σ 7) 7 ∧ g148 3 y148_5 = x1 ∧ g148 8 y148_5 = 2 := (by omega)
        rw [n_ hf]; exact (GS.nxt (f := 2) (K := 4) (Gu1416 (by omega)) Y_.1 Y_.2.1 Y_.2.2.1 Y_.2.2.2 (by omega) (Ou1413 (by omega)).2.2.1).2
        have L_ : Im (fz s181 = 0) ((rA s181 (1000 * ((rR σ 7) + 1) + 5) y148_5) = 0 ∨ 0 < (rA s181 (1000 * ((rR σ 7) + 1) + 5) y148_5) ∧ (rA s181 (1000 * ((rR σ 7) + 1) + 5) y148_5) < rF s181 (rR σ 7) 7 ∧ g148 3 (rA s181 (1000 * ((rR σ 7) + 1) + 5) y148_5) = x1 ∧ g148 8 (rA s181 (1000 * ((rR σ 7) + 1) + 5) y148_5) = 2) := fun hf => by have := M_ hf; omega
        have B_ : fz s181 = 1 ∨ (rA s181 (1000 * ((rR σ 7) + 1) + 5) y148_5) = 0 ∨ y148_5 < (rA s181 (1000 * ((rR σ 7) + 1) + 5) y148_5) ∧ (rA s181 (1000 * ((rR σ 7) + 1) + 5) y148_5) < 60000 := by rcases fz_01 s181 with z_ | z_; exact Or.inr (by have := M_ z_; omega); exact Or.inl z_
        exact (by (try simp only [inv_X14_readOptions_148, mu_X14_readOptions_148, mu_X14_readOptions_148, Ks181]); (all_goals (repeat' (first | with_reducible intro _ | with_reducible apply And.intro | with_reducible refine Exists.intro g148 ?_ | with_reducible refine Im.and ?_ ?_))); all_goals (first | assumption | trivial | ((with_reducible refine Im.i fun hf_ => ?_); first | exact (A181 hf_) | exact (Gu1416 hf_) | exact (Ku1415 hf_) | exact (Ou1413 hf_).cst | exact (Lu1414 hf_) | exact ok1.i | (exact LI.z (fun h => absurd h (by decide))) | (exact absurd hf_ (by omega)) | omega) | (unfold NBP; (try simp only [Ks181]); omega) | (unfold NBQ; (try simp only [Ks181]); omega) | omega | (have zz_ := fz_z (by assumption); omega) | (split <;> omega) | (exact fun hf_ => L_ (by omega)) | ((repeat' split) <;> omega) | done))
set_option maxHeartbeats 20000000 in
theorem vX14_readOptions_148m (n : Nat) (σ : rS) (x1 : Int) (gg : Nat) (g : Nat → Int → Int) (hwf : rWF σ) (hx1 : rng x1) (hp : pre_X14_readOptions σ x1 gg g) (hr : rk_X14_readOptions σ x1 gg g ≤ n + 1) : VC_X14_readOptions_148m n σ x1 gg g := by
  unfold pre_X14_readOptions at hp
  obtain ⟨hp_1, hp_2, hp_3, hp_4, hp_5, hp_6, hp_7, hp_8, hp_9, hp_10, hp_11, hp_12⟩ := hp
  unfold rng at hx1
  subst hp_1
  unfold rk_X14_readOptions at hr
  have hN := hp_4
  unfold NBP at hN
  have hC := hp_3
  unfold CCp at hC
  obtain ⟨hC1, hC⟩ := hC
  have zr0 := fz_rng σ
  have hr2 : fz σ = 0 → 16 * (21 - rF σ 0 31).toNat + 7 ≤ n + 1 := fun h => by rw [if_pos h] at hr; exact hr
  have hr3 : 7 ≤ n + 1 := by have := hr; split at this <;> omega
  clear hr
  unfold VC_X14_readOptions_148m
  (try simp only [inv_X14_readOptions_148, mu_X14_readOptions_148]); (all_goals (repeat' (first | with_reducible intro _ | with_reducible apply And.intro))); all_goals (first | assumption | omega | grind (splits := 20))
set_option maxHeartbeats 20000000 in
theorem vX14_readOptions_25 (n : Nat) (σ : rS) (x1 : Int) (gg : Nat) (g : Nat → Int → Int) (hwf : rWF σ) (hx1 : rng x1) (hp : pre_X14_readOptions σ x1 gg g) (hr : rk_X14_readOptions σ x1 gg g ≤ n + 1) : VC_X14_readOptions_25 n σ x1 gg g (post_X14_readOptions σ x1 gg g) := by
  unfold pre_X14_readOptions at hp
  obtain ⟨hp_1, hp_2, hp_3, hp_4, hp_5, hp_6, hp_7, hp_8, hp_9, hp_10, hp_11, hp_12⟩ := hp
  unfold rng at hx1
  subst hp_1
  unfold rk_X14_readOptions at hr
  have hN := hp_4
  unfold NBP at hN
  have hC := hp_3
  unfold CCp at hC
  obtain ⟨hC1, hC⟩ := hC
  have zr0 := fz_rng σ
  have hr2 : fz σ = 0 → 16 * (21 - rF σ 0 31).toNat + 7 ≤ n + 1 := fun h => by rw [if_pos h] at hr; exact hr
  have hr3 : 7 ≤ n + 1 := by have := hr; split at this <;> omega
  clear hr
  unfold VC_X14_readOptions_25
  intro s25 y25_2 y25_3 Ws25 hy25_2 hy25_3 e25_0 e25_1 e25_2 e25_3 e25_4 e25_5 e25_6 e25_7 e25_8 e25_9 I25
  have Ks25 : rR s25 7 = rR σ 7 := by omega
  unfold inv_X14_readOptions_25 at I25
  obtain ⟨I25_1, I25_2, I25_3, I25_4, I25_5, I25_6, I25_7, I25_8, I25_9, I25_10⟩ := I25
  (try simp only [Ks25, NBP, NBQ] at I25_1 I25_2 I25_3 I25_4 I25_5 I25_6 I25_7 I25_8 I25_9 I25_10)
  have zr25 := fz_rng s25
  have TPRp_25 := e25_0 hC1; clear e25_0
  have CCp_25 := e25_1 hp_3; clear e25_1
  obtain ⟨g25, X25⟩ := I25_10
  have G25 : Im (fz s25 = 0) _ := fun hf => (X25 hf).1
  have KA25 : Im (fz s25 = 0) _ := fun hf => (X25 hf).2.1
  have O25 : Im (fz s25 = 0) _ := fun hf => (X25 hf).2.2.1
  have L25 : Im (fz s25 = 0) _ := fun hf => (X25 hf).2.2.2.1
  refine ⟨fun c26 => ?_, fun c26 => ?_⟩
  · exact (by (try simp only [post_X14_readOptions, Ks25]); (all_goals (repeat' (first | with_reducible intro _ | with_reducible apply And.intro | with_reducible refine Exists.intro g25 ?_ | with_reducible refine Im.and ?_ ?_))); all_goals (first | assumption | trivial | ((with_reducible refine Im.i fun hf_ => ?_); first | exact (I25_9 hf_) | exact (G25 hf_) | exact (KA25 hf_) | exact (O25 hf_).cst | exact (L25 hf_) | exact ok1.i | (exact LI.z (fun h => absurd h (by decide))) | (exact absurd hf_ (by omega)) | omega) | (unfold NBP; (try simp only [Ks25]); omega) | (unfold NBQ; (try simp only [Ks25]); omega) | omega | (have zz_ := fz_z (by assumption); omega) | (split <;> omega) | (exact fun hf_ => L_ (by omega)) | ((repeat' split) <;> omega) | done))
  · intro hr_; unfold rng at hr_
    refine ⟨fun c33 => ?_, fun c33 => ?_⟩
    · have z33 := fz_n c33
      exact (by (try simp only [post_X14_readOptions, Ks25]); (all_goals (repeat' (first | with_reducible intro _ | with_reducible apply And.intro | with_reducible refine Exists.intro g25 ?_ | with_reducible refine Im.and ?_ ?_))); all_goals (first | assumption | trivial | ((with_reducible refine Im.i fun hf_ => ?_); first | exact (I25_9 hf_) | exact (G25 hf_) | exact (KA25 hf_) | exact (O25 hf_).cst | exact (L25 hf_) | exact ok1.i | (exact LI.z (fun h => absurd h (by decide))) | (exact absurd hf_ (by omega)) | omega) | (unfold NBP; (try simp only [Ks25]); omega) | (unfold NBQ; (try simp only [Ks25]); omega) | omega | (have zz_ := fz_z (by assumption); omega) | (split <;> omega) | (exact fun hf_ => L_ (by omega)) | ((repeat' split) <;> omega) | done))
    · have z33 := fz_z c33
      intro hr_; unfold rng at hr_
      refine ⟨(by (try simp only [rng, Ks25]); (all_goals (repeat' (first | with_reducible intro _ | with_reducible apply And.intro | with_reducible refine Exists.intro g25 ?_ | with_reducible refine Im.and ?_ ?_))); all_goals (first | assumption | trivial | ((with_reducible refine Im.i fun hf_ => ?_); first | exact (I25_9 hf_) | exact (G25 hf_) | exact (KA25 hf_) | exact (O25 hf_).cst | exact (L25 hf_) | exact ok1.i | (exact LI.z (fun h => absurd h (by decide))) | (exact absurd hf_ (by omega)) | omega) | (unfold NBP; (try simp only [Ks25]); omega) | (unfold NBQ; (try simp only [Ks25]); omega) | omega | (have zz_ := fz_z (by assumption); omega) | (split <;> omega) | (exact fun hf_ => L_ (by omega)) | ((repeat' split) <;> omega) | done)), ?_⟩
      refine ⟨(by (try simp only [pre_X14_blanks, reduceIte, and_true, true_and, and_false, false_and, and_self, Nat.reduceEqDiff, fz_sF29, rF_sF, rA_sF, rR_sF, tr_sF, rNMp_sF, PNp_sF, GS_F29, OP_F29, NR_F29, LI_F29, RG_l29, RG_r29, TPRp_sF29, WNp_sF29, VMp_sF29, KYp_sF29, PPp_sF29, WFp_sF29, CCp_sF29, rk_n0 hp_2, Ks25]); (all_goals (repeat' (first | with_reducible intro _ | with_reducible apply And.intro | with_reducible refine Exists.intro g25 ?_ | with_reducible refine Im.and ?_ ?_))); all_goals (first | assumption | trivial | ((with_reducible refine Im.i fun hf_ => ?_); first | exact (I25_9 hf_) | exact (G25 hf_) | exact (KA25 hf_) | exact (O25 hf_).cst | exact (L25 hf_) | exact ok1.i | (exact LI.z (fun h => absurd h (by decide))) | (exact absurd hf_ (by omega)) | omega) | (unfold NBP; (try simp only [reduceIte, and_true, true_and, and_false, false_and, and_self, Nat.reduceEqDiff, fz_sF29, rF_sF, rA_sF, rR_sF, tr_sF, rNMp_sF, PNp_sF, GS_F29, OP_F29, NR_F29, LI_F29, RG_l29, RG_r29, TPRp_sF29, WNp_sF29, VMp_sF29, KYp_sF29, PPp_sF29, WFp_sF29, CCp_sF29, rk_n0 hp_2, Ks25]); omega) | (unfold NBQ; (try simp only [reduceIte, and_true, true_and, and_false, false_and, and_self, Nat.reduceEqDiff, fz_sF29, rF_sF, rA_sF, rR_sF, tr_sF, rNMp_sF, PNp_sF, GS_F29, OP_F29, NR_F29, LI_F29, RG_l29, RG_r29, TPRp_sF29, WNp_sF29, VMp_sF29, KYp_sF29, PPp_sF29, WFp_sF29, CCp_sF29, rk_n0 hp_2, Ks25]); omega) | omega | (have zz_ := fz_z (by assumption); omega) | (split <;> omega) | (exact fun hf_ => L_ (by omega)) | ((repeat' split) <;> omega) | done)), ?_⟩
      intro s47 Ws47 e47_0 e47_1 e47_2 e47_3 e47_4 e47_5 e47_6 e47_7 e47_8 e47_9 e47_10 e47_11 e47_12 e47_13 e47_14 e47_15 e47_16 e47_17 e47_18 e47_19 e47_20 e47_21 e47_22 R47 q47
      have q47 := dig_blanks q47 (by (try simp only [reduceIte, and_true, true_and, and_false, false_and, and_self, Nat.reduceEqDiff, fz_sF29, rF_sF, rA_sF, rR_sF, tr_sF, rNMp_sF, PNp_sF, GS_F29, OP_F29, NR_F29, LI_F29, RG_l29, RG_r29, TPRp_sF29, WNp_sF29, VMp_sF29, KYp_sF29, PPp_sF29, WFp_sF29, CCp_sF29, rk_n0 hp_2, Ks25]); omega)
      obtain ⟨q47_1, q47_2⟩ := q47
      (try simp only [reduceIte, and_true, true_and, and_false, false_and, and_self, Nat.reduceEqDiff, fz_sF29, rF_sF, rA_sF, rR_sF, tr_sF, rNMp_sF, PNp_sF, GS_F29, OP_F29, NR_F29, LI_F29, RG_l29, RG_r29, TPRp_sF29, WNp_sF29, VMp_sF29, KYp_sF29, PPp_sF29, WFp_sF29, CCp_sF29, rk_n0 hp_2, Ks25, NBP, NBQ] at q47_1 q47_2 e47_0 e47_1 e47_2 e47_3 e47_4 e47_5 e47_6 e47_7 e47_8 e47_9 e47_10 e47_11 e47_12 e47_13 e47_14 e47_15 e47_16 e47_17 e47_18 e47_19 e47_20 e47_21 e47_22 R47)
      have Ks47 : rR s47 7 = rR σ 7 := by first | assumption | ((try simp only [rR_sF, rR_sA, rR_sT, rR_sL] at e47_0 e47_1 e47_2 e47_3 e47_4 e47_5 e47_6 e47_7 e47_8 e47_9 e47_10 e47_11 e47_12 e47_13 e47_14 e47_15 e47_16 e47_17 e47_18 e47_19 e47_20 e47_21 e47_22 R47); omega)
      have zr47 := fz_rng s47
      have zc47 : fz s47 = 0 → fz s25 = 0 := fun hf => by omega
      have A47 : Im (fz s47 = 0) (RG σ s47 (rR σ 7) x1) := fun hf => RG.trk hp_2 (I25_9 (zc47 hf)) R47 (Or.inr (Or.inl rfl))
      have Ou5 : Im (fz s47 = 0) _ := fun hf => OP.gk0 (O25 (zc47 hf)) (GK.up (g := g25) (N := rF s25 (rR σ 7) 7) (N' := rF s47 (rR σ 7) 7) (c := 0) (by first | assumption | omega | (simp only [rF_sT, rF_sA]; omega)))
      have Lu6 : Im (fz s47 = 0) _ := fun hf => LI.gk0 hp_2 (L25 (zc47 hf)) (O25 (zc47 hf)) R47 (GK.up (g := g25) (N := rF s25 (rR σ 7) 7) (N' := rF s47 (rR σ 7) 7) (c := 0) (by first | assumption | omega | (simp only [rF_sT, rF_sA]; omega)))
      have Ku7 : Im (fz s47 = 0) (GK g g25 (rF σ (rR σ 7) 7) (rF s47 (rR σ 7) 7) x1) := fun hf => GK.trans (KA25 (zc47 hf)) (GK.up (N := rF s25 (rR σ 7) 7) (N' := rF s47 (rR σ 7) 7) (c := 0) (by first | assumption | omega | (simp only [rF_sT, rF_sA]; omega))) (Or.inr (Or.inl rfl))
      have Gu8 : Im (fz s47 = 0) (GS s47 (rR σ 7) g25) := fun hf => GS.mv hp_2 (G25 (zc47 hf)) R47 (by first | assumption | omega | (simp only [rF_sT, rF_sA]; omega)) (by first | (exact Int.le_of_eq (Eq.symm (by assumption))) | omega | (simp only [rF_sT, rF_sA]; omega))
      have rNMp_47 := e47_0 I25_2; clear e47_0
      have TPRp_47 := e47_1 TPRp_25; clear e47_1
      have WNp_47 := e47_2 I25_3; clear e47_2
      have PNp_47 := e47_3 I25_4; clear e47_3
      have CCp_47 := e47_4 CCp_25; clear e47_4
      refine ⟨(by (try simp only [pre_X14_isWord_t, Ks47]); (all_goals (repeat' (first | with_reducible intro _ | with_reducible apply And.intro | with_reducible refine Exists.intro g25 ?_ | with_reducible refine Im.and ?_ ?_))); all_goals (first | assumption | trivial | ((with_reducible refine Im.i fun hf_ => ?_); first | exact (A47 hf_) | exact (Gu8 hf_) | exact (Ku7 hf_) | exact (Ou5 hf_).cst | exact (Lu6 hf_) | exact ok1.i | (exact LI.z (fun h => absurd h (by decide))) | (exact absurd hf_ (by omega)) | omega) | (unfold NBP; (try simp only [Ks47]); omega) | (unfold NBQ; (try simp only [Ks47]); omega) | omega | (have zz_ := fz_z (by assumption); omega) | (split <;> omega) | (exact fun hf_ => L_ (by omega)) | ((repeat' split) <;> omega) | done)), ?_⟩
      intro v54 hv54 q54
      unfold rng at hv54
      unfold post_X14_isWord_t at q54
      obtain ⟨q54_1, q54_2, q54_3⟩ := q54
      (try simp only [Ks47, NBP, NBQ] at q54_1 q54_2 q54_3)
      refine ⟨fun c57 => ?_, fun c57 => ?_⟩
      · refine ⟨(by (try simp only [pre_X14_isWord_t, Ks47]); (all_goals (repeat' (first | with_reducible intro _ | with_reducible apply And.intro | with_reducible refine Exists.intro g25 ?_ | with_reducible refine Im.and ?_ ?_))); all_goals (first | assumption | trivial | ((with_reducible refine Im.i fun hf_ => ?_); first | exact (A47 hf_) | exact (Gu8 hf_) | exact (Ku7 hf_) | exact (Ou5 hf_).cst | exact (Lu6 hf_) | exact ok1.i | (exact LI.z (fun h => absurd h (by decide))) | (exact absurd hf_ (by omega)) | omega) | (unfold NBP; (try simp only [Ks47]); omega) | (unfold NBQ; (try simp only [Ks47]); omega) | omega | (have zz_ := fz_z (by assumption); omega) | (split <;> omega) | (exact fun hf_ => L_ (by omega)) | ((repeat' split) <;> omega) | done)), ?_⟩
        intro v68 hv68 q68
        unfold rng at hv68
        unfold post_X14_isWord_t at q68
        obtain ⟨q68_1, q68_2, q68_3⟩ := q68
        (try simp only [Ks47, NBP, NBQ] at q68_1 q68_2 q68_3)
        refine ⟨fun c71 => ?_, fun c71 => ?_⟩
        · refine ⟨(by (try simp only [pre_X14_isWord_t, Ks47]); (all_goals (repeat' (first | with_reducible intro _ | with_reducible apply And.intro | with_reducible refine Exists.intro g25 ?_ | with_reducible refine Im.and ?_ ?_))); all_goals (first | assumption | trivial | ((with_reducible refine Im.i fun hf_ => ?_); first | exact (A47 hf_) | exact (Gu8 hf_) | exact (Ku7 hf_) | exact (Ou5 hf_).cst | exact (Lu6 hf_) | exact ok1.i | (exact LI.z (fun h => absurd h (by decide))) | (exact absurd hf_ (by omega)) | omega) | (unfold NBP; (try simp only [Ks47]); omega) | (unfold NBQ; (try simp only [Ks47]); omega) | omega | (have zz_ := fz_z (by assumption); omega) | (split <;> omega) | (exact fun hf_ => L_ (by omega)) | ((repeat' split) <;> omega) | done)), ?_⟩
          intro v82 hv82 q82
          unfold rng at hv82
          unfold post_X14_isWord_t at q82
          obtain ⟨q82_1, q82_2, q82_3⟩ := q82
          (try simp only [Ks47, NBP, NBQ] at q82_1 q82_2 q82_3)
          refine ⟨fun c85 => ?_, fun c85 => ?_⟩
          · refine ⟨(by (try simp only [pre_X14_isWord_t, Ks47]); (all_goals (repeat' (first | with_reducible intro _ | with_reducible apply And.intro | with_reducible refine Exists.intro g25 ?_ | with_reducible refine Im.and ?_ ?_))); all_goals (first | assumption | trivial | ((with_reducible refine Im.i fun hf_ => ?_); first | exact (A47 hf_) | exact (Gu8 hf_) | exact (Ku7 hf_) | exact (Ou5 hf_).cst | exact (Lu6 hf_) | exact ok1.i | (exact LI.z (fun h => absurd h (by decide))) | (exact absurd hf_ (by omega)) | omega) | (unfold NBP; (try simp only [Ks47]); omega) | (unfold NBQ; (try simp only [Ks47]); omega) | omega | (have zz_ := fz_z (by assumption); omega) | (split <;> omega) | (exact fun hf_ => L_ (by omega)) | ((repeat' split) <;> omega) | done)), ?_⟩
            intro v96 hv96 q96
            unfold rng at hv96
            unfold post_X14_isWord_t at q96
            obtain ⟨q96_1, q96_2, q96_3⟩ := q96
            (try simp only [Ks47, NBP, NBQ] at q96_1 q96_2 q96_3)
            refine ⟨fun c99 => ?_, fun c99 => ?_⟩
            · refine ⟨(by (try simp only [pre_X14_isWord_t, Ks47]); (all_goals (repeat' (first | with_reducible intro _ | with_reducible apply And.intro | with_reducible refine Exists.intro g25 ?_ | with_reducible refine Im.and ?_ ?_))); all_goals (first | assumption | trivial | ((with_reducible refine Im.i fun hf_ => ?_); first | exact (A47 hf_) | exact (Gu8 hf_) | exact (Ku7 hf_) | exact (Ou5 hf_).cst | exact (Lu6 hf_) | exact ok1.i | (exact LI.z (fun h => absurd h (by decide))) | (exact absurd hf_ (by omega)) | omega) | (unfold NBP; (try simp only [Ks47]); omega) | (unfold NBQ; (try simp only [Ks47]); omega) | omega | (have zz_ := fz_z (by assumption); omega) | (split <;> omega) | (exact fun hf_ => L_ (by omega)) | ((repeat' split) <;> omega) | done)), ?_⟩
              intro v110 hv110 q110
              unfold rng at hv110
              unfold post_X14_isWord_t at q110
              obtain ⟨q110_1, q110_2, q110_3⟩ := q110
              (try simp only [Ks47, NBP, NBQ] at q110_1 q110_2 q110_3)
              refine ⟨fun c113 => ?_, fun c113 => ?_⟩
              · refine ⟨(by (try simp only [pre_X14_place, Ks47]); (all_goals (repeat' (first | with_reducible intro _ | with_reducible apply And.intro | with_reducible refine Exists.intro g25 ?_ | with_reducible refine Im.and ?_ ?_))); all_goals (first | assumption | trivial | ((with_reducible refine Im.i fun hf_ => ?_); first | exact (A47 hf_) | exact (Gu8 hf_) | exact (Ku7 hf_) | exact (Ou5 hf_).cst | exact (Lu6 hf_) | exact ok1.i | (exact LI.z (fun h => absurd h (by decide))) | (exact absurd hf_ (by omega)) | omega) | (unfold NBP; (try simp only [Ks47]); omega) | (unfold NBQ; (try simp only [Ks47]); omega) | omega | (have zz_ := fz_z (by assumption); omega) | (split <;> omega) | (exact fun hf_ => L_ (by omega)) | ((repeat' split) <;> omega) | done)), ?_⟩
                intro v131 hv131 q131
                unfold rng at hv131
                unfold post_X14_place at q131
                obtain ⟨q131_1, q131_2⟩ := q131
                (try simp only [Ks47, NBP, NBQ] at q131_1 q131_2)
                refine ⟨(by (try simp only [pre_X14_bad, Ks47]); (all_goals (repeat' (first | with_reducible intro _ | with_reducible apply And.intro | with_reducible refine Exists.intro g25 ?_ | with_reducible refine Im.and ?_ ?_))); all_goals (first | assumption | trivial | ((with_reducible refine Im.i fun hf_ => ?_); first | exact (A47 hf_) | exact (Gu8 hf_) | exact (Ku7 hf_) | exact (Ou5 hf_).cst | exact (Lu6 hf_) | exact ok1.i | (exact LI.z (fun h => absurd h (by decide))) | (exact absurd hf_ (by omega)) | omega) | (unfold NBP; (try simp only [Ks47]); omega) | (unfold NBQ; (try simp only [Ks47]); omega) | omega | (have zz_ := fz_z (by assumption); omega) | (split <;> omega) | (exact fun hf_ => L_ (by omega)) | ((repeat' split) <;> omega) | done)), ?_⟩
                intro s134 Ws134 e134_0 e134_1 e134_2 e134_3 e134_4 e134_5 e134_6 e134_7 e134_8 e134_9 e134_10 e134_11 e134_12 e134_13 e134_14 e134_15 e134_16 e134_17 e134_18 e134_19 e134_20 e134_21 R134 q134
                have q134 := dig_bad q134 (by (try simp only [Ks47]); omega)
                obtain ⟨q134_1, q134_2⟩ := q134
                (try simp only [Ks47, NBP, NBQ] at q134_1 q134_2 e134_0 e134_1 e134_2 e134_3 e134_4 e134_5 e134_6 e134_7 e134_8 e134_9 e134_10 e134_11 e134_12 e134_13 e134_14 e134_15 e134_16 e134_17 e134_18 e134_19 e134_20 e134_21 R134)
                have Ks134 : rR s134 7 = rR σ 7 := by first | assumption | ((try simp only [rR_sF, rR_sA, rR_sT, rR_sL] at e134_0 e134_1 e134_2 e134_3 e134_4 e134_5 e134_6 e134_7 e134_8 e134_9 e134_10 e134_11 e134_12 e134_13 e134_14 e134_15 e134_16 e134_17 e134_18 e134_19 e134_20 e134_21 R134); omega)
                have zr134 := fz_rng s134
                have zc134 : fz s134 = 0 → fz s47 = 0 := fun hf => by omega
                have A134 : Im (fz s134 = 0) (RG σ s134 (rR σ 7) x1) := fun hf => RG.trk hp_2 (A47 (zc134 hf)) R134 (Or.inr (Or.inl rfl))
                have Ou9 : Im (fz s134 = 0) _ := fun hf => OP.gk0 (Ou5 (zc134 hf)) (GK.up (g := g25) (N := rF s47 (rR σ 7) 7) (N' := rF s134 (rR σ 7) 7) (c := 0) (by first | assumption | omega | (simp only [rF_sT, rF_sA]; omega)))
                have Lu10 : Im (fz s134 = 0) _ := fun hf => LI.gk0 hp_2 (Lu6 (zc134 hf)) (Ou5 (zc134 hf)) R134 (GK.up (g := g25) (N := rF s47 (rR σ 7) 7) (N' := rF s134 (rR σ 7) 7) (c := 0) (by first | assumption | omega | (simp only [rF_sT, rF_sA]; omega)))
                have Ku11 : Im (fz s134 = 0) (GK g g25 (rF σ (rR σ 7) 7) (rF s134 (rR σ 7) 7) x1) := fun hf => GK.trans (Ku7 (zc134 hf)) (GK.up (N := rF s47 (rR σ 7) 7) (N' := rF s134 (rR σ 7) 7) (c := 0) (by first | assumption | omega | (simp only [rF_sT, rF_sA]; omega))) (Or.inr (Or.inl rfl))
                have Gu12 : Im (fz s134 = 0) (GS s134 (rR σ 7) g25) := fun hf => GS.mv hp_2 (Gu8 (zc134 hf)) R134 (by first | assumption | omega | (simp only [rF_sT, rF_sA]; omega)) (by first | (exact Int.le_of_eq (Eq.symm (by assumption))) | omega | (simp only [rF_sT, rF_sA]; omega))
                have rNMp_134 := e134_0 rNMp_47; clear e134_0
                have TPRp_134 := e134_1 TPRp_47; clear e134_1
                have WNp_134 := e134_2 WNp_47; clear e134_2
                have PNp_134 := e134_3 PNp_47; clear e134_3
                have CCp_134 := e134_4 CCp_47; clear e134_4
                refine ⟨(by (try simp only [Ks134]); (all_goals (repeat' (first | with_reducible intro _ | with_reducible apply And.intro | with_reducible refine Exists.intro g25 ?_ | with_reducible refine Im.and ?_ ?_))); all_goals (first | assumption | trivial | ((with_reducible refine Im.i fun hf_ => ?_); first | exact (A134 hf_) | exact (Gu12 hf_) | exact (Ku11 hf_) | exact (Ou9 hf_).cst | exact (Lu10 hf_) | exact ok1.i | (exact LI.z (fun h => absurd h (by decide))) | (exact absurd hf_ (by omega)) | omega) | (unfold NBP; (try simp only [Ks134]); omega) | (unfold NBQ; (try simp only [Ks134]); omega) | omega | (have zz_ := fz_z (by assumption); omega) | (split <;> omega) | (exact fun hf_ => L_ (by omega)) | ((repeat' split) <;> omega) | done)), ?_⟩
                intro hr_; unfold rng at hr_
                have n_ : Im (fz s134 = 0) (rA s134 (1000 * ((rR σ 7) + 1) + 2) x1 = tr s134 (rR σ 7) 2 x1) := fun hf => tr_rd hp_2 (Or.inl (by decide))
                have L_ : Im (fz s134 = 0) (rA s134 (1000 * ((rR σ 7) + 1) + 2) x1 = 0 ∨ 0 < rA s134 (1000 * ((rR σ 7) + 1) + 2) x1 ∧ rA s134 (1000 * ((rR σ 7) + 1) + 2) x1 < rF s134 (rR σ 7) 7 ∧ g25 3 (rA s134 (1000 * ((rR σ 7) + 1) + 2) x1) = x1 ∧ g25 8 (rA s134 (1000 * ((rR σ 7) + 1) + 2) x1) = 2) := fun hf => by rw [n_ hf]; exact GS.fst (f := 2) (K := 4) (Gu12 (by omega)) (by omega) (by omega) (Ou9 (by omega)).2.2.1
                exact (by (try simp only [inv_X14_readOptions_148, mu_X14_readOptions_25, Ks134]); (all_goals (repeat' (first | with_reducible intro _ | with_reducible apply And.intro | with_reducible refine Exists.intro g25 ?_ | with_reducible refine Im.and ?_ ?_))); all_goals (first | assumption | trivial | ((with_reducible refine Im.i fun hf_ => ?_); first | exact (A134 hf_) | exact (Gu12 hf_) | exact (Ku11 hf_) | exact (Ou9 hf_).cst | exact (Lu10 hf_) | exact ok1.i | (exact LI.z (fun h => absurd h (by decide))) | (exact absurd hf_ (by omega)) | omega) | (unfold NBP; (try simp only [Ks134]); omega) | (unfold NBQ; (try simp only [Ks134]); omega) | omega | (have zz_ := fz_z (by assumption); omega) | (split <;> omega) | (exact fun hf_ => L_ (by omega)) | ((repeat' split) <;> omega) | done))
              · refine ⟨(by (try simp only [Ks47]); (all_goals (repeat' (first | with_reducible intro _ | with_reducible apply And.intro | with_reducible refine Exists.intro g25 ?_ | with_reducible refine Im.and ?_ ?_))); all_goals (first | assumption | trivial | ((with_reducible refine Im.i fun hf_ => ?_); first | exact (A47 hf_) | exact (Gu8 hf_) | exact (Ku7 hf_) | exact (Ou5 hf_).cst | exact (Lu6 hf_) | exact ok1.i | (exact LI.z (fun h => absurd h (by decide))) | (exact absurd hf_ (by omega)) | omega) | (unfold NBP; (try simp only [Ks47]); omega) | (unfold NBQ; (try simp only [Ks47]); omega) | omega | (have zz_ := fz_z (by assumption); omega) | (split <;> omega) | (exact fun hf_ => L_ (by omega)) | ((repeat' split) <;> omega) | done)), ?_⟩
                intro hr_; unfold rng at hr_
                have n_ : Im (fz s47 = 0) (rA s47 (1000 * ((rR σ 7) + 1) + 2) x1 = tr s47 (rR σ 7) 2 x1) := fun hf => tr_rd hp_2 (Or.inl (by decide))
                have L_ : Im (fz s47 = 0) (rA s47 (1000 * ((rR σ 7) + 1) + 2) x1 = 0 ∨ 0 < rA s47 (1000 * ((rR σ 7) + 1) + 2) x1 ∧ rA s47 (1000 * ((rR σ 7) + 1) + 2) x1 < rF s47 (rR σ 7) 7 ∧ g25 3 (rA s47 (1000 * ((rR σ 7) + 1) + 2) x1) = x1 ∧ g25 8 (rA s47 (1000 * ((rR σ 7) + 1) + 2) x1) = 2) := fun hf => by rw [n_ hf]; exact GS.fst (f := 2) (K := 4) (Gu8 (by omega)) (by omega) (by omega) (Ou5 (by omega)).2.2.1
                exact (by (try simp only [inv_X14_readOptions_148, mu_X14_readOptions_25, Ks47]); (all_goals (repeat' (first | with_reducible intro _ | with_reducible apply And.intro | with_reducible refine Exists.intro g25 ?_ | with_reducible refine Im.and ?_ ?_))); all_goals (first | assumption | trivial | ((with_reducible refine Im.i fun hf_ => ?_); first | exact (A47 hf_) | exact (Gu8 hf_) | exact (Ku7 hf_) | exact (Ou5 hf_).cst | exact (Lu6 hf_) | exact ok1.i | (exact LI.z (fun h => absurd h (by decide))) | (exact absurd hf_ (by omega)) | omega) | (unfold NBP; (try simp only [Ks47]); omega) | (unfold NBQ; (try simp only [Ks47]); omega) | omega | (have zz_ := fz_z (by assumption); omega) | (split <;> omega) | (exact fun hf_ => L_ (by omega)) | ((repeat' split) <;> omega) | done))
            · refine ⟨(by (try simp only [Ks47]); (all_goals (repeat' (first | with_reducible intro _ | with_reducible apply And.intro | with_reducible refine Exists.intro g25 ?_ | with_reducible refine Im.and ?_ ?_))); all_goals (first | assumption | trivial | ((with_reducible refine Im.i fun hf_ => ?_); first | exact (A47 hf_) | exact (Gu8 hf_) | exact (Ku7 hf_) | exact (Ou5 hf_).cst | exact (Lu6 hf_) | exact ok1.i | (exact LI.z (fun h => absurd h (by decide))) | (exact absurd hf_ (by omega)) | omega) | (unfold NBP; (try simp only [Ks47]); omega) | (unfold NBQ; (try simp only [Ks47]); omega) | omega | (have zz_ := fz_z (by assumption); omega) | (split <;> omega) | (exact fun hf_ => L_ (by omega)) | ((repeat' split) <;> omega) | done)), ?_⟩
              intro hr_; unfold rng at hr_
              have n_ : Im (fz s47 = 0) (rA s47 (1000 * ((rR σ 7) + 1) + 2) x1 = tr s47 (rR σ 7) 2 x1) := fun hf => tr_rd hp_2 (Or.inl (by decide))
              have L_ : Im (fz s47 = 0) (rA s47 (1000 * ((rR σ 7) + 1) + 2) x1 = 0 ∨ 0 < rA s47 (1000 * ((rR σ 7) + 1) + 2) x1 ∧ rA s47 (1000 * ((rR σ 7) + 1) + 2) x1 < rF s47 (rR σ 7) 7 ∧ g25 3 (rA s47 (1000 * ((rR σ 7) + 1) + 2) x1) = x1 ∧ g25 8 (rA s47 (1000 * ((rR σ 7) + 1) + 2) x1) = 2) := fun hf => by rw [n_ hf]; exact GS.fst (f := 2) (K := 4) (Gu8 (by omega)) (by omega) (by omega) (Ou5 (by omega)).2.2.1
              exact (by (try simp only [inv_X14_readOptions_148, mu_X14_readOptions_25, Ks47]); (all_goals (repeat' (first | with_reducible intro _ | with_reducible apply And.intro | with_reducible refine Exists.intro g25 ?_ | with_reducible refine Im.and ?_ ?_))); all_goals (first | assumption | trivial | ((with_reducible refine Im.i fun hf_ => ?_); first | exact (A47 hf_) | exact (Gu8 hf_) | exact (Ku7 hf_) | exact (Ou5 hf_).cst | exact (Lu6 hf_) | exact ok1.i | (exact LI.z (fun h => absurd h (by decide))) | (exact absurd hf_ (by omega)) | omega) | (unfold NBP; (try simp only [Ks47]); omega) | (unfold NBQ; (try simp only [Ks47]); omega) | omega | (have zz_ := fz_z (by assumption); omega) | (split <;> omega) | (exact fun hf_ => L_ (by omega)) | ((repeat' split) <;> omega) | done))
          · refine ⟨(by (try simp only [Ks47]); (all_goals (repeat' (first | with_reducible intro _ | with_reducible apply And.intro | with_reducible refine Exists.intro g25 ?_ | with_reducible refine Im.and ?_ ?_))); all_goals (first | assumption | trivial | ((with_reducible refine Im.i fun hf_ => ?_); first | exact (A47 hf_) | exact (Gu8 hf_) | exact (Ku7 hf_) | exact (Ou5 hf_).cst | exact (Lu6 hf_) | exact ok1.i | (exact LI.z (fun h => absurd h (by decide))) | (exact absurd hf_ (by omega)) | omega) | (unfold NBP; (try simp only [Ks47]); omega) | (unfold NBQ; (try simp only [Ks47]); omega) | omega | (have zz_ := fz_z (by assumption); omega) | (split <;> omega) | (exact fun hf_ => L_ (by omega)) | ((repeat' split) <;> omega) | done)), ?_⟩
            intro hr_; unfold rng at hr_
            have n_ : Im (fz s47 = 0) (rA s47 (1000 * ((rR σ 7) + 1) + 2) x1 = tr s47 (rR σ 7) 2 x1) := fun hf => tr_rd hp_2 (Or.inl (by decide))
            have L_ : Im (fz s47 = 0) (rA s47 (1000 * ((rR σ 7) + 1) + 2) x1 = 0 ∨ 0 < rA s47 (1000 * ((rR σ 7) + 1) + 2) x1 ∧ rA s47 (1000 * ((rR σ 7) + 1) + 2) x1 < rF s47 (rR σ 7) 7 ∧ g25 3 (rA s47 (1000 * ((rR σ 7) + 1) + 2) x1) = x1 ∧ g25 8 (rA s47 (1000 * ((rR σ 7) + 1) + 2) x1) = 2) := fun hf => by rw [n_ hf]; exact GS.fst (f := 2) (K := 4) (Gu8 (by omega)) (by omega) (by omega) (Ou5 (by omega)).2.2.1
            exact (by (try simp only [inv_X14_readOptions_148, mu_X14_readOptions_25, Ks47]); (all_goals (repeat' (first | with_reducible intro _ | with_reducible apply And.intro | with_reducible refine Exists.intro g25 ?_ | with_reducible refine Im.and ?_ ?_))); all_goals (first | assumption | trivial | ((with_reducible refine Im.i fun hf_ => ?_); first | exact (A47 hf_) | exact (Gu8 hf_) | exact (Ku7 hf_) | exact (Ou5 hf_).cst | exact (Lu6 hf_) | exact ok1.i | (exact LI.z (fun h => absurd h (by decide))) | (exact absurd hf_ (by omega)) | omega) | (unfold NBP; (try simp only [Ks47]); omega) | (unfold NBQ; (try simp only [Ks47]); omega) | omega | (have zz_ := fz_z (by assumption); omega) | (split <;> omega) | (exact fun hf_ => L_ (by omega)) | ((repeat' split) <;> omega) | done))
        · refine ⟨(by (try simp only [Ks47]); (all_goals (repeat' (first | with_reducible intro _ | with_reducible apply And.intro | with_reducible refine Exists.intro g25 ?_ | with_reducible refine Im.and ?_ ?_))); all_goals (first | assumption | trivial | ((with_reducible refine Im.i fun hf_ => ?_); first | exact (A47 hf_) | exact (Gu8 hf_) | exact (Ku7 hf_) | exact (Ou5 hf_).cst | exact (Lu6 hf_) | exact ok1.i | (exact LI.z (fun h => absurd h (by decide))) | (exact absurd hf_ (by omega)) | omega) | (unfold NBP; (try simp only [Ks47]); omega) | (unfold NBQ; (try simp only [Ks47]); omega) | omega | (have zz_ := fz_z (by assumption); omega) | (split <;> omega) | (exact fun hf_ => L_ (by omega)) | ((repeat' split) <;> omega) | done)), ?_⟩
          intro hr_; unfold rng at hr_
          have n_ : Im (fz s47 = 0) (rA s47 (1000 * ((rR σ 7) + 1) + 2) x1 = tr s47 (rR σ 7) 2 x1) := fun hf => tr_rd hp_2 (Or.inl (by decide))
          have L_ : Im (fz s47 = 0) (rA s47 (1000 * ((rR σ 7) + 1) + 2) x1 = 0 ∨ 0 < rA s47 (1000 * ((rR σ 7) + 1) + 2) x1 ∧ rA s47 (1000 * ((rR σ 7) + 1) + 2) x1 < rF s47 (rR σ 7) 7 ∧ g25 3 (rA s47 (1000 * ((rR σ 7) + 1) + 2) x1) = x1 ∧ g25 8 (rA s47 (1000 * ((rR σ 7) + 1) + 2) x1) = 2) := fun hf => by rw [n_ hf]; exact GS.fst (f := 2) (K := 4) (Gu8 (by omega)) (by omega) (by omega) (Ou5 (by omega)).2.2.1
          exact (by (try simp only [inv_X14_readOptions_148, mu_X14_readOptions_25, Ks47]); (all_goals (repeat' (first | with_reducible intro _ | with_reducible apply And.intro | with_reducible refine Exists.intro g25 ?_ | with_reducible refine Im.and ?_ ?_))); all_goals (first | assumption | trivial | ((with_reducible refine Im.i fun hf_ => ?_); first | exact (A47 hf_) | exact (Gu8 hf_) | exact (Ku7 hf_) | exact (Ou5 hf_).cst | exact (Lu6 hf_) | exact ok1.i | (exact LI.z (fun h => absurd h (by decide))) | (exact absurd hf_ (by omega)) | omega) | (unfold NBP; (try simp only [Ks47]); omega) | (unfold NBQ; (try simp only [Ks47]); omega) | omega | (have zz_ := fz_z (by assumption); omega) | (split <;> omega) | (exact fun hf_ => L_ (by omega)) | ((repeat' split) <;> omega) | done))
      · refine ⟨(by (try simp only [Ks47]); (all_goals (repeat' (first | with_reducible intro _ | with_reducible apply And.intro | with_reducible refine Exists.intro g25 ?_ | with_reducible refine Im.and ?_ ?_))); all_goals (first | assumption | trivial | ((with_reducible refine Im.i fun hf_ => ?_); first | exact (A47 hf_) | exact (Gu8 hf_) | exact (Ku7 hf_) | exact (Ou5 hf_).cst | exact (Lu6 hf_) | exact ok1.i | (exact LI.z (fun h => absurd h (by decide))) | (exact absurd hf_ (by omega)) | omega) | (unfold NBP; (try simp only [Ks47]); omega) | (unfold NBQ; (try simp only [Ks47]); omega) | omega | (have zz_ := fz_z (by assumption); omega) | (split <;> omega) | (exact fun hf_ => L_ (by omega)) | ((repeat' split) <;> omega) | done)), ?_⟩
        intro hr_; unfold rng at hr_
        have n_ : Im (fz s47 = 0) (rA s47 (1000 * ((rR σ 7) + 1) + 2) x1 = tr s47 (rR σ 7) 2 x1) := fun hf => tr_rd hp_2 (Or.inl (by decide))
        have L_ : Im (fz s47 = 0) (rA s47 (1000 * ((rR σ 7) + 1) + 2) x1 = 0 ∨ 0 < rA s47 (1000 * ((rR σ 7) + 1) + 2) x1 ∧ rA s47 (1000 * ((rR σ 7) + 1) + 2) x1 < rF s47 (rR σ 7) 7 ∧ g25 3 (rA s47 (1000 * ((rR σ 7) + 1) + 2) x1) = x1 ∧ g25 8 (rA s47 (1000 * ((rR σ 7) + 1) + 2) x1) = 2) := fun hf => by rw [n_ hf]; exact GS.fst (f := 2) (K := 4) (Gu8 (by omega)) (by omega) (by omega) (Ou5 (by omega)).2.2.1
        exact (by (try simp only [inv_X14_readOptions_148, mu_X14_readOptions_25, Ks47]); (all_goals (repeat' (first | with_reducible intro _ | with_reducible apply And.intro | with_reducible refine Exists.intro g25 ?_ | with_reducible refine Im.and ?_ ?_))); all_goals (first | assumption | trivial | ((with_reducible refine Im.i fun hf_ => ?_); first | exact (A47 hf_) | exact (Gu8 hf_) | exact (Ku7 hf_) | exact (Ou5 hf_).cst | exact (Lu6 hf_) | exact ok1.i | (exact LI.z (fun h => absurd h (by decide))) | (exact absurd hf_ (by omega)) | omega) | (unfold NBP; (try simp only [Ks47]); omega) | (unfold NBQ; (try simp only [Ks47]); omega) | omega | (have zz_ := fz_z (by assumption); omega) | (split <;> omega) | (exact fun hf_ => L_ (by omega)) | ((repeat' split) <;> omega) | done))
set_option maxHeartbeats 20000000 in
theorem vX14_readOptions_25m (n : Nat) (σ : rS) (x1 : Int) (gg : Nat) (g : Nat → Int → Int) (hwf : rWF σ) (hx1 : rng x1) (hp : pre_X14_readOptions σ x1 gg g) (hr : rk_X14_readOptions σ x1 gg g ≤ n + 1) : VC_X14_readOptions_25m n σ x1 gg g := by
  unfold pre_X14_readOptions at hp
  obtain ⟨hp_1, hp_2, hp_3, hp_4, hp_5, hp_6, hp_7, hp_8, hp_9, hp_10, hp_11, hp_12⟩ := hp
  unfold rng at hx1
  subst hp_1
  unfold rk_X14_readOptions at hr
  have hN := hp_4
  unfold NBP at hN
  have hC := hp_3
  unfold CCp at hC
  obtain ⟨hC1, hC⟩ := hC
  have zr0 := fz_rng σ
  have hr2 : fz σ = 0 → 16 * (21 - rF σ 0 31).toNat + 7 ≤ n + 1 := fun h => by rw [if_pos h] at hr; exact hr
  have hr3 : 7 ≤ n + 1 := by have := hr; split at this <;> omega
  clear hr
  unfold VC_X14_readOptions_25m
  (try simp only [inv_X14_readOptions_25, mu_X14_readOptions_25]); (all_goals (repeat' (first | with_reducible intro _ | with_reducible apply And.intro))); all_goals (first | assumption | omega | grind (splits := 20))
