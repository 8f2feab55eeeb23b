theorem WNp_note {σ : rS} {a b c d : Int} (h : WNp σ) (hc1 : 0 ≤ c) (hc2 : c ≤ 4000) (ha : 1 ≤ a ∧ a ≤ 7 ∨ 20 ≤ a ∧ a ≤ 26) (hb : (a = 4 ∨ a = 6 ∨ a = 7 ∨ a = 25) → 0 ≤ b ∧ b < 50000) (hd : d = 0) : WNp (sF (sA (sA (sA (sA σ 1034 (rF σ 0 38) a) 1035 (rF σ 0 38) b) 1036 (rF σ 0 38) c) 1037 (rF σ 0 38) d) 0 38 (rF σ 0 38 + 1)) := by
  unfold WNp at *
  intro j h0 h1
  rw [F_sF] at h1
  by_cases e : j = rF σ 0 38
  · subst e
    simp only [rA_sF, rA_sA, Nat.reduceEqDiff, and_true, and_self, false_and, reduceIte, if_true]
    exact ⟨hc1, hc2, hb, ha, Or.inl hd⟩
  · have := h j h0 (by omega)
    simp only [rA_sF, rA_sA, e, and_false, if_false]
    exact this
theorem PNp.of {σ t : rS} (h : PNp σ) (eR : rR t 7 = rR σ 7) (e32 : rF t (rR σ 7) 32 = rF σ (rR σ 7) 32) (e7 : rF σ (rR σ 7) 7 ≤ rF t (rR σ 7) 7) (e31 : ∀ i, rA t (1000 * (rR σ 7 + 1) + 31) i = rA σ (1000 * (rR σ 7 + 1) + 31) i) (e0 : ∀ i, i < rF σ (rR σ 7) 7 → rA t (1000 * (rR σ 7 + 1) + 0) i = rA σ (1000 * (rR σ 7 + 1) + 0) i) : PNp t := by
  obtain ⟨hk, h⟩ := h
  unfold PNp
  rw [eR, e32]
  refine ⟨hk, fun j j0 j1 => ?_⟩
  obtain ⟨q1, q2, q3⟩ := h j j0 j1
  rw [e31, e0 _ q2]
  exact ⟨q1, by omega, q3⟩
theorem TPRp_sT {σ : rS} {k f : Nat} {i x : Int} (hk : rgk k) : TPRp (sT σ k f i x) = TPRp σ := by
  have h1 : 1 ≤ k := by rcases hk with rfl | rfl | rfl <;> decide
  exact TPRp_sA (by omega)
theorem WNp_sT {σ : rS} {k f : Nat} {i x : Int} (hk : rgk k) : WNp (sT σ k f i x) = WNp σ := by
  have h1 : 1 ≤ k := by rcases hk with rfl | rfl | rfl <;> decide
  exact WNp_sA (by omega) (by omega) (by omega) (by omega)
theorem VMp_sT {σ : rS} {k f : Nat} {i x : Int} (hk : rgk k) : VMp (sT σ k f i x) = VMp σ := by
  have h1 : 1 ≤ k := by rcases hk with rfl | rfl | rfl <;> decide
  exact VMp_sA (by omega) (by omega)
theorem KYp_sT {σ : rS} {k f : Nat} {i x : Int} (hk : rgk k) : KYp (sT σ k f i x) = KYp σ := by
  have h1 : 1 ≤ k := by rcases hk with rfl | rfl | rfl <;> decide
  exact KYp_sA (by omega) (by omega)
theorem PPp_sT {σ : rS} {k f : Nat} {i x : Int} (hk : rgk k) : PPp (sT σ k f i x) = PPp σ := by
  have h1 : 1 ≤ k := by rcases hk with rfl | rfl | rfl <;> decide
  exact PPp_sA (by omega) (by omega)
theorem WFp_sT {σ : rS} {k f : Nat} {i x : Int} (hk : rgk k) : WFp (sT σ k f i x) = WFp σ := by
  have h1 : 1 ≤ k := by rcases hk with rfl | rfl | rfl <;> decide
  exact WFp_sA (by omega) (by omega)
def pre_X14_node_t (σ : rS) (x1 : Int) (x2 : Int) (x3 : Int) (x4 : Int) (gg : Nat) : Prop := rR σ 7 = gg ∧ rgk gg ∧ 0 ≤ (rF σ gg 7) ∧ (rF σ gg 7) < 50000 ∧ 0 ≤ x4 ∧ x4 ≤ 100000 ∧ 0 ≤ (rF σ 0 14) ∧ (rF σ 0 14) ≤ 7 ∧ PNp σ
def post_X14_node_t (σ : rS) (x1 : Int) (x2 : Int) (x3 : Int) (x4 : Int) (gg : Nat) (r : Int) (σ' : rS) : Prop := r = (rF σ gg 7) ∧ (rF σ' gg 7) = (rF σ gg 7) + 1 ∧ RG σ σ' gg 0 ∧ tr σ' gg 0 r = x1 ∧ tr σ' gg 1 r = x2 ∧ tr σ' gg 2 r = x3 ∧ tr σ' gg 3 r = 0 ∧ tr σ' gg 4 r = 0 ∧ tr σ' gg 5 r = 0 ∧ PNp σ'
def VC_X14_node_t (σ : rS) (x1 : Int) (x2 : Int) (x3 : Int) (x4 : Int) (gg : Nat) (Q : Int → rS → Prop) : Prop := rgk (rR σ 7) ∧ (rng (rF σ (rR σ 7) 7) → rng ((rF σ (rR σ 7) 7) + 1) ∧ (0 ≤ (rF σ (rR σ 7) 7) ∧ (rF σ (rR σ 7) 7) < 50000) ∧ (0 ≤ (rF σ (rR σ 7) 7) ∧ (rF σ (rR σ 7) 7) < 50000) ∧ (0 ≤ (rF σ (rR σ 7) 7) ∧ (rF σ (rR σ 7) 7) < 50000) ∧ (0 ≤ (rF σ (rR σ 7) 7) ∧ (rF σ (rR σ 7) 7) < 50000) ∧ (0 ≤ (rF σ (rR σ 7) 7) ∧ (rF σ (rR σ 7) 7) < 50000) ∧ (0 ≤ (rF σ (rR σ 7) 7) ∧ (rF σ (rR σ 7) 7) < 50000) ∧ (rng (rF σ 0 14) → (0 ≤ (rF σ (rR σ 7) 7) ∧ (rF σ (rR σ 7) 7) < 50000) ∧ rng ((8 * x4) + (rF σ 0 14)) ∧ Q (rF σ (rR σ 7) 7) (sA (sT (sT (sT (sT (sT (sT (sF σ (rR σ 7) 7 ((rF σ (rR σ 7) 7) + 1)) (rR σ 7) 0 (rF σ (rR σ 7) 7) x1) (rR σ 7) 1 (rF σ (rR σ 7) 7) x2) (rR σ 7) 2 (rF σ (rR σ 7) 7) x3) (rR σ 7) 3 (rF σ (rR σ 7) 7) 0) (rR σ 7) 4 (rF σ (rR σ 7) 7) 0) (rR σ 7) 5 (rF σ (rR σ 7) 7) 0) (1000 * ((rR σ 7) + 1) + 6) (rF σ (rR σ 7) 7) ((8 * x4) + (rF σ 0 14)))))
set_option maxHeartbeats 20000000 in
theorem vX14_node_t (σ : rS) (x1 : Int) (x2 : Int) (x3 : Int) (x4 : Int) (gg : Nat) (hwf : rWF σ) (hx1 : rng x1) (hx2 : rng x2) (hx3 : rng x3) (hx4 : rng x4) (hp : pre_X14_node_t σ x1 x2 x3 x4 gg) : VC_X14_node_t σ x1 x2 x3 x4 gg (post_X14_node_t σ x1 x2 x3 x4 gg) := by
  unfold pre_X14_node_t at hp
  obtain ⟨hp_1, hp_2, hp_3, hp_4, hp_5, hp_6, hp_7, hp_8, hp_9⟩ := hp
  unfold rng at hx1 hx2 hx3 hx4
  subst hp_1
  unfold VC_X14_node_t
  refine ⟨(by (all_goals (repeat' (first | with_reducible intro _ | with_reducible apply And.intro))); all_goals (first | assumption | trivial | omega | (have zz_ := fz_z (by assumption); omega) | (split <;> omega) | ((repeat' (first | exact RG.rf | apply RG.n7 | apply RG.tst)) <;> (first | assumption | omega | decide | (left; omega) | (simp only [rF_sT]; omega)); done) | (exact PNp.of hp_9 (by simp only [rR_sF, rR_sA, rR_sT]) (by simp only [rF_sT, rF_sA, rF_sF, Nat.reduceEqDiff, and_false, reduceIte]) (by simp only [rF_sT, rF_sA, rF_sF, and_self, and_true, reduceIte]; omega) (fun i => by simp only [rA_sT, rA_sA, rA_sF, Nat.add_left_cancel_iff, Nat.reduceEqDiff, false_and, reduceIte]) (fun i hi => by simp only [rA_sT, rA_sA, rA_sF, Nat.add_left_cancel_iff, Nat.reduceEqDiff, false_and, true_and, reduceIte]; rw [if_neg (by omega)])) | grind (splits := 20) [])), ?_⟩
  intro hr_; unfold rng at hr_
  refine ⟨(by (try simp only [rng]); (all_goals (repeat' (first | with_reducible intro _ | with_reducible apply And.intro))); all_goals (first | assumption | trivial | omega | (have zz_ := fz_z (by assumption); omega) | (split <;> omega) | ((repeat' (first | exact RG.rf | apply RG.n7 | apply RG.tst)) <;> (first | assumption | omega | decide | (left; omega) | (simp only [rF_sT]; omega)); done) | (exact PNp.of hp_9 (by simp only [rR_sF, rR_sA, rR_sT]) (by simp only [rF_sT, rF_sA, rF_sF, Nat.reduceEqDiff, and_false, reduceIte]) (by simp only [rF_sT, rF_sA, rF_sF, and_self, and_true, reduceIte]; omega) (fun i => by simp only [rA_sT, rA_sA, rA_sF, Nat.add_left_cancel_iff, Nat.reduceEqDiff, false_and, reduceIte]) (fun i hi => by simp only [rA_sT, rA_sA, rA_sF, Nat.add_left_cancel_iff, Nat.reduceEqDiff, false_and, true_and, reduceIte]; rw [if_neg (by omega)])) | grind (splits := 20) [])), ?_⟩
  refine ⟨(by (try simp only [reduceIte, and_true, true_and, and_false, false_and, and_self, Nat.reduceEqDiff, fz_sF7, rF_sF, rA_sF, rR_sF, tr_sF, TPRp_sF7, WNp_sF7, VMp_sF7, KYp_sF7, PPp_sF7, WFp_sF7]); (all_goals (repeat' (first | with_reducible intro _ | with_reducible apply And.intro))); all_goals (first | assumption | trivial | omega | (have zz_ := fz_z (by assumption); omega) | (split <;> omega) | ((repeat' (first | exact RG.rf | apply RG.n7 | apply RG.tst)) <;> (first | assumption | omega | decide | (left; omega) | (simp only [rF_sT]; omega)); done) | (exact PNp.of hp_9 (by simp only [rR_sF, rR_sA, rR_sT]) (by simp only [rF_sT, rF_sA, rF_sF, Nat.reduceEqDiff, and_false, reduceIte]) (by simp only [rF_sT, rF_sA, rF_sF, and_self, and_true, reduceIte]; omega) (fun i => by simp only [rA_sT, rA_sA, rA_sF, Nat.add_left_cancel_iff, Nat.reduceEqDiff, false_and, reduceIte]) (fun i hi => by simp only [rA_sT, rA_sA, rA_sF, Nat.add_left_cancel_iff, Nat.reduceEqDiff, false_and, true_and, reduceIte]; rw [if_neg (by omega)])) | grind (splits := 20) [])), ?_⟩
  refine ⟨(by (try simp only [reduceIte, and_true, true_and, and_false, false_and, and_self, Nat.reduceEqDiff, fz_sF7, rF_sF, rA_sF, rR_sF, tr_sF, TPRp_sF7, WNp_sF7, VMp_sF7, KYp_sF7, PPp_sF7, WFp_sF7, fz_sA, rF_sA, rA_sA, rR_sA, rF_sT, rR_sT, sT_sF, fz_sT, rA_sT26 hp_2, rA_sT27 hp_2, rA_sT34 hp_2, rA_sT35 hp_2, rA_sT36 hp_2, rA_sT37 hp_2, rA_sT40 hp_2, TPRp_sT hp_2, WNp_sT hp_2, VMp_sT hp_2, KYp_sT hp_2, PPp_sT hp_2, WFp_sT hp_2]); (all_goals (repeat' (first | with_reducible intro _ | with_reducible apply And.intro))); all_goals (first | assumption | trivial | omega | (have zz_ := fz_z (by assumption); omega) | (split <;> omega) | ((repeat' (first | exact RG.rf | apply RG.n7 | apply RG.tst)) <;> (first | assumption | omega | decide | (left; omega) | (simp only [rF_sT]; omega)); done) | (exact PNp.of hp_9 (by simp only [rR_sF, rR_sA, rR_sT]) (by simp only [rF_sT, rF_sA, rF_sF, Nat.reduceEqDiff, and_false, reduceIte]) (by simp only [rF_sT, rF_sA, rF_sF, and_self, and_true, reduceIte]; omega) (fun i => by simp only [rA_sT, rA_sA, rA_sF, Nat.add_left_cancel_iff, Nat.reduceEqDiff, false_and, reduceIte]) (fun i hi => by simp only [rA_sT, rA_sA, rA_sF, Nat.add_left_cancel_iff, Nat.reduceEqDiff, false_and, true_and, reduceIte]; rw [if_neg (by omega)])) | grind (splits := 20) [])), ?_⟩
  refine ⟨(by (try simp only [reduceIte, and_true, true_and, and_false, false_and, and_self, Nat.reduceEqDiff, fz_sF7, rF_sF, rA_sF, rR_sF, tr_sF, TPRp_sF7, WNp_sF7, VMp_sF7, KYp_sF7, PPp_sF7, WFp_sF7, fz_sA, rF_sA, rA_sA, rR_sA, rF_sT, rR_sT, sT_sF, fz_sT, rA_sT26 hp_2, rA_sT27 hp_2, rA_sT34 hp_2, rA_sT35 hp_2, rA_sT36 hp_2, rA_sT37 hp_2, rA_sT40 hp_2, TPRp_sT hp_2, WNp_sT hp_2, VMp_sT hp_2, KYp_sT hp_2, PPp_sT hp_2, WFp_sT hp_2]); (all_goals (repeat' (first | with_reducible intro _ | with_reducible apply And.intro))); all_goals (first | assumption | trivial | omega | (have zz_ := fz_z (by assumption); omega) | (split <;> omega) | ((repeat' (first | exact RG.rf | apply RG.n7 | apply RG.tst)) <;> (first | assumption | omega | decide | (left; omega) | (simp only [rF_sT]; omega)); done) | (exact PNp.of hp_9 (by simp only [rR_sF, rR_sA, rR_sT]) (by simp only [rF_sT, rF_sA, rF_sF, Nat.reduceEqDiff, and_false, reduceIte]) (by simp only [rF_sT, rF_sA, rF_sF, and_self, and_true, reduceIte]; omega) (fun i => by simp only [rA_sT, rA_sA, rA_sF, Nat.add_left_cancel_iff, Nat.reduceEqDiff, false_and, reduceIte]) (fun i hi => by simp only [rA_sT, rA_sA, rA_sF, Nat.add_left_cancel_iff, Nat.reduceEqDiff, false_and, true_and, reduceIte]; rw [if_neg (by omega)])) | grind (splits := 20) [])), ?_⟩
  refine ⟨(by (try simp only [reduceIte, and_true, true_and, and_false, false_and, and_self, Nat.reduceEqDiff, fz_sF7, rF_sF, rA_sF, rR_sF, tr_sF, TPRp_sF7, WNp_sF7, VMp_sF7, KYp_sF7, PPp_sF7, WFp_sF7, fz_sA, rF_sA, rA_sA, rR_sA, rF_sT, rR_sT, sT_sF, fz_sT, rA_sT26 hp_2, rA_sT27 hp_2, rA_sT34 hp_2, rA_sT35 hp_2, rA_sT36 hp_2, rA_sT37 hp_2, rA_sT40 hp_2, TPRp_sT hp_2, WNp_sT hp_2, VMp_sT hp_2, KYp_sT hp_2, PPp_sT hp_2, WFp_sT hp_2]); (all_goals (repeat' (first | with_reducible intro _ | with_reducible apply And.intro))); all_goals (first | assumption | trivial | omega | (have zz_ := fz_z (by assumption); omega) | (split <;> omega) | ((repeat' (first | exact RG.rf | apply RG.n7 | apply RG.tst)) <;> (first | assumption | omega | decide | (left; omega) | (simp only [rF_sT]; omega)); done) | (exact PNp.of hp_9 (by simp only [rR_sF, rR_sA, rR_sT]) (by simp only [rF_sT, rF_sA, rF_sF, Nat.reduceEqDiff, and_false, reduceIte]) (by simp only [rF_sT, rF_sA, rF_sF, and_self, and_true, reduceIte]; omega) (fun i => by simp only [rA_sT, rA_sA, rA_sF, Nat.add_left_cancel_iff, Nat.reduceEqDiff, false_and, reduceIte]) (fun i hi => by simp only [rA_sT, rA_sA, rA_sF, Nat.add_left_cancel_iff, Nat.reduceEqDiff, false_and, true_and, reduceIte]; rw [if_neg (by omega)])) | grind (splits := 20) [])), ?_⟩
  refine ⟨(by (try simp only [reduceIte, and_true, true_and, and_false, false_and, and_self, Nat.reduceEqDiff, fz_sF7, rF_sF, rA_sF, rR_sF, tr_sF, TPRp_sF7, WNp_sF7, VMp_sF7, KYp_sF7, PPp_sF7, WFp_sF7, fz_sA, rF_sA, rA_sA, rR_sA, rF_sT, rR_sT, sT_sF, fz_sT, rA_sT26 hp_2, rA_sT27 hp_2, rA_sT34 hp_2, rA_sT35 hp_2, rA_sT36 hp_2, rA_sT37 hp_2, rA_sT40 hp_2, TPRp_sT hp_2, WNp_sT hp_2, VMp_sT hp_2, KYp_sT hp_2, PPp_sT hp_2, WFp_sT hp_2]); (all_goals (repeat' (first | with_reducible intro _ | with_reducible apply And.intro))); all_goals (first | assumption | trivial | omega | (have zz_ := fz_z (by assumption); omega) | (split <;> omega) | ((repeat' (first | exact RG.rf | apply RG.n7 | apply RG.tst)) <;> (first | assumption | omega | decide | (left; omega) | (simp only [rF_sT]; omega)); done) | (exact PNp.of hp_9 (by simp only [rR_sF, rR_sA, rR_sT]) (by simp only [rF_sT, rF_sA, rF_sF, Nat.reduceEqDiff, and_false, reduceIte]) (by simp only [rF_sT, rF_sA, rF_sF, and_self, and_true, reduceIte]; omega) (fun i => by simp only [rA_sT, rA_sA, rA_sF, Nat.add_left_cancel_iff, Nat.reduceEqDiff, false_and, reduceIte]) (fun i hi => by simp only [rA_sT, rA_sA, rA_sF, Nat.add_left_cancel_iff, Nat.reduceEqDiff, false_and, true_and, reduceIte]; rw [if_neg (by omega)])) | grind (splits := 20) [])), ?_⟩
  refine ⟨(by (try simp only [reduceIte, and_true, true_and, and_false, false_and, and_self, Nat.reduceEqDiff, fz_sF7, rF_sF, rA_sF, rR_sF, tr_sF, TPRp_sF7, WNp_sF7, VMp_sF7, KYp_sF7, PPp_sF7, WFp_sF7, fz_sA, rF_sA, rA_sA, rR_sA, rF_sT, rR_sT, sT_sF, fz_sT, rA_sT26 hp_2, rA_sT27 hp_2, rA_sT34 hp_2, rA_sT35 hp_2, rA_sT36 hp_2, rA_sT37 hp_2, rA_sT40 hp_2, TPRp_sT hp_2, WNp_sT hp_2, VMp_sT hp_2, KYp_sT hp_2, PPp_sT hp_2, WFp_sT hp_2]); (all_goals (repeat' (first | with_reducible intro _ | with_reducible apply And.intro))); all_goals (first | assumption | trivial | omega | (have zz_ := fz_z (by assumption); omega) | (split <;> omega) | ((repeat' (first | exact RG.rf | apply RG.n7 | apply RG.tst)) <;> (first | assumption | omega | decide | (left; omega) | (simp only [rF_sT]; omega)); done) | (exact PNp.of hp_9 (by simp only [rR_sF, rR_sA, rR_sT]) (by simp only [rF_sT, rF_sA, rF_sF, Nat.reduceEqDiff, and_false, reduceIte]) (by simp only [rF_sT, rF_sA, rF_sF, and_self, and_true, reduceIte]; omega) (fun i => by simp only [rA_sT, rA_sA, rA_sF, Nat.add_left_cancel_iff, Nat.reduceEqDiff, false_and, reduceIte]) (fun i hi => by simp only [rA_sT, rA_sA, rA_sF, Nat.add_left_cancel_iff, Nat.reduceEqDiff, false_and, true_and, reduceIte]; rw [if_neg (by omega)])) | grind (splits := 20) [])), ?_⟩
  intro hr_; unfold rng at hr_
  refine ⟨(by (try simp only [reduceIte, and_true, true_and, and_false, false_and, and_self, Nat.reduceEqDiff, fz_sF7, rF_sF, rA_sF, rR_sF, tr_sF, TPRp_sF7, WNp_sF7, VMp_sF7, KYp_sF7, PPp_sF7, WFp_sF7, fz_sA, rF_sA, rA_sA, rR_sA, rF_sT, rR_sT, sT_sF, fz_sT, rA_sT26 hp_2, rA_sT27 hp_2, rA_sT34 hp_2, rA_sT35 hp_2, rA_sT36 hp_2, rA_sT37 hp_2, rA_sT40 hp_2, TPRp_sT hp_2, WNp_sT hp_2, VMp_sT hp_2, KYp_sT hp_2, PPp_sT hp_2, WFp_sT hp_2]); (all_goals (repeat' (first | with_reducible intro _ | with_reducible apply And.intro))); all_goals (first | assumption | trivial | omega | (have zz_ := fz_z (by assumption); omega) | (split <;> omega) | ((repeat' (first | exact RG.rf | apply RG.n7 | apply RG.tst)) <;> (first | assumption | omega | decide | (left; omega) | (simp only [rF_sT]; omega)); done) | (exact PNp.of hp_9 (by simp only [rR_sF, rR_sA, rR_sT]) (by simp only [rF_sT, rF_sA, rF_sF, Nat.reduceEqDiff, and_false, reduceIte]) (by simp only [rF_sT, rF_sA, rF_sF, and_self, and_true, reduceIte]; omega) (fun i => by simp only [rA_sT, rA_sA, rA_sF, Nat.add_left_cancel_iff, Nat.reduceEqDiff, false_and, reduceIte]) (fun i hi => by simp only [rA_sT, rA_sA, rA_sF, Nat.add_left_cancel_iff, Nat.reduceEqDiff, false_and, true_and, reduceIte]; rw [if_neg (by omega)])) | grind (splits := 20) [])), ?_⟩
  refine ⟨(by (try simp only [rng, reduceIte, and_true, true_and, and_false, false_and, and_self, Nat.reduceEqDiff, fz_sF7, rF_sF, rA_sF, rR_sF, tr_sF, TPRp_sF7, WNp_sF7, VMp_sF7, KYp_sF7, PPp_sF7, WFp_sF7, fz_sA, rF_sA, rA_sA, rR_sA, rF_sT, rR_sT, sT_sF, fz_sT, rA_sT26 hp_2, rA_sT27 hp_2, rA_sT34 hp_2, rA_sT35 hp_2, rA_sT36 hp_2, rA_sT37 hp_2, rA_sT40 hp_2, TPRp_sT hp_2, WNp_sT hp_2, VMp_sT hp_2, KYp_sT hp_2, PPp_sT hp_2, WFp_sT hp_2]); (all_goals (repeat' (first | with_reducible intro _ | with_reducible apply And.intro))); all_goals (first | assumption | trivial | omega | (have zz_ := fz_z (by assumption); omega) | (split <;> omega) | ((repeat' (first | exact RG.rf | apply RG.n7 | apply RG.tst)) <;> (first | assumption | omega | decide | (left; omega) | (simp only [rF_sT]; omega)); done) | (exact PNp.of hp_9 (by simp only [rR_sF, rR_sA, rR_sT]) (by simp only [rF_sT, rF_sA, rF_sF, Nat.reduceEqDiff, and_false, reduceIte]) (by simp only [rF_sT, rF_sA, rF_sF, and_self, and_true, reduceIte]; omega) (fun i => by simp only [rA_sT, rA_sA, rA_sF, Nat.add_left_cancel_iff, Nat.reduceEqDiff, false_and, reduceIte]) (fun i hi => by simp only [rA_sT, rA_sA, rA_sF, Nat.add_left_cancel_iff, Nat.reduceEqDiff, false_and, true_and, reduceIte]; rw [if_neg (by omega)])) | grind (splits := 20) [])), ?_⟩
  exact (by (try simp only [post_X14_node_t, tr_sT hp_2 (f := 0) (by decide), tr_sT hp_2 (f := 1) (by decide), tr_sT hp_2 (f := 2) (by decide), tr_sT hp_2 (f := 3) (by decide), tr_sT hp_2 (f := 4) (by decide), tr_sT hp_2 (f := 5) (by decide), Nat.reduceEqDiff, reduceIte, and_true, true_and, and_false, false_and, and_self, Nat.reduceEqDiff, fz_sF7, rF_sF, rA_sF, rR_sF, tr_sF, TPRp_sF7, WNp_sF7, VMp_sF7, KYp_sF7, PPp_sF7, WFp_sF7, fz_sA, rF_sA, rA_sA, rR_sA, rF_sT, rR_sT, sT_sF, fz_sT, rA_sT26 hp_2, rA_sT27 hp_2, rA_sT34 hp_2, rA_sT35 hp_2, rA_sT36 hp_2, rA_sT37 hp_2, rA_sT40 hp_2, TPRp_sT hp_2, WNp_sT hp_2, VMp_sT hp_2, KYp_sT hp_2, PPp_sT hp_2, WFp_sT hp_2, tr_g6, RG_rg6, RG_lg6, TPRp_gA6, WNp_gA6, VMp_gA6, KYp_gA6, PPp_gA6, WFp_gA6]); (all_goals (repeat' (first | with_reducible intro _ | with_reducible apply And.intro))); all_goals (first | assumption | trivial | omega | (have zz_ := fz_z (by assumption); omega) | (split <;> omega) | ((repeat' (first | exact RG.rf | apply RG.n7 | apply RG.tst)) <;> (first | assumption | omega | decide | (left; omega) | (simp only [rF_sT]; omega)); done) | (exact PNp.of hp_9 (by simp only [rR_sF, rR_sA, rR_sT]) (by simp only [rF_sT, rF_sA, rF_sF, Nat.reduceEqDiff, and_false, reduceIte]) (by simp only [rF_sT, rF_sA, rF_sF, and_self, and_true, reduceIte]; omega) (fun i => by simp only [rA_sT, rA_sA, rA_sF, Nat.add_left_cancel_iff, Nat.reduceEqDiff, false_and, reduceIte]) (fun i hi => by simp only [rA_sT, rA_sA, rA_sF, Nat.add_left_cancel_iff, Nat.reduceEqDiff, false_and, true_and, reduceIte]; rw [if_neg (by omega)])) | grind (splits := 20) []))
theorem wX14_node_t (l : Launch) (G : zG) (κ : Nat → Nat) (σ : rS) (x1 : Int) (x2 : Int) (x3 : Int) (x4 : Int) (gg : Nat) (hwf : rWF σ) (hx1 : rng x1) (hx2 : rng x2) (hx3 : rng x3) (hx4 : rng x4) (Q : Int → rS → Prop) (h : VC_X14_node_t σ x1 x2 x3 x4 gg Q) : rMi l G κ yX14_node cX14_node 6 .int 1 0 [.ref (κ 0), iv x1, iv x2, iv x3, iv x4] σ (fun x s => rKeep 0 0x80 0 0x7f 0 σ s ∧ Q x s) := by
  refine zMi.intro (by decide +kernel) (Nat.le_of_ble_eq_true rfl) (fun X hC hR => ?_)
  obtain ⟨g0, h⟩ := h
  refine z_aload_n hC (pc := 0) 0 dX14_node_0 rfl rfl ?_
  refine y_get hC (pc := 1) zf14 rOb_0 7 (v := .ref (κ (rR σ 7))) dX14_node_1 zw2475 (rv_g rfl rfl g0) (kk := ?_)
  refine y_getN hC (pc := 4) zf13 (rOb_k g0) 7 (v := iv (rF σ (rR σ 7) 7)) dX14_node_4 zw2324 (rv_i (Or.inl rfl) rfl) (kk := ?_)
  have h := h (hwf.f _ _)
  refine z_istore hC (pc := 7) (lv' := [(5, iv (rF σ (rR σ 7) 7)), (0, .ref (κ 0)), (1, iv x1), (2, iv x2), (3, iv x3), (4, iv x4)]) dX14_node_7 (by decide) rfl ?_
  refine z_aload_n hC (pc := 9) 1 dX14_node_9 rfl rfl ?_
  refine y_get hC (pc := 10) zf14 rOb_0 7 (v := .ref (κ (rR σ 7))) dX14_node_10 zw2475 (rv_g rfl rfl g0) (kk := ?_)
  refine z_dup hC (pc := 13) dX14_node_13 rfl ?_
  refine y_getN hC (pc := 14) zf13 (rOb_k g0) 7 (v := iv (rF σ (rR σ 7) 7)) dX14_node_14 zw2324 (rv_i (Or.inl rfl) rfl) (kk := ?_)
  refine z_iconst hC (pc := 17) (v := Int32.ofInt 1) dX14_node_17 (by decide) ?_
  refine y_iadd hC (pc := 18) (v := ((rF σ (rR σ 7) 7) + 1)) dX14_node_18 rfl ?_
  obtain ⟨r10, h⟩ := h
  refine y_putIN hC (pc := 19) zf13 (rOb_k g0) 7 (x := ((rF σ (rR σ 7) 7) + 1)) dX14_node_19 zw2324 (Or.inl rfl) rfl rfl (kk := ?_)
  have W11 := hwf.sF (q := (rR σ 7)) (f := 7) (x := ((rF σ (rR σ 7) 7) + 1)) r10
  refine z_aload_n hC (pc := 22) 1 dX14_node_22 rfl rfl ?_
  refine y_get hC (pc := 23) zf14 rOb_0 7 (v := .ref (κ (rR σ 7))) dX14_node_23 zw2475 (rv_g rfl rfl g0) (kk := ?_)
  refine y_getN hC (pc := 26) zf13 (rOb_k g0) 0 (v := .ref (κ (1000 * ((rR σ 7) + 1) + 0))) dX14_node_26 zw2310 (rv_c rfl) (kk := ?_)
  refine z_iload hC (pc := 29) 0 dX14_node_29 rfl ?_
  refine z_iload_n hC (pc := 31) 2 dX14_node_31 rfl rfl ?_
  obtain ⟨b12, h⟩ := h
  refine y_iast hC (pc := 32) (rAr_k g0 rfl rfl) dX14_node_32 b12 (v := x1) (kk := ?_)
  have W13 := W11.sA (p := (1000 * ((rR σ 7) + 1) + 0)) (i := (rF σ (rR σ 7) 7)) (x := x1) hx1
  refine z_aload_n hC (pc := 33) 1 dX14_node_33 rfl rfl ?_
  refine y_get hC (pc := 34) zf14 rOb_0 7 (v := .ref (κ (rR σ 7))) dX14_node_34 zw2475 (rv_g rfl rfl g0) (kk := ?_)
  refine y_getN hC (pc := 37) zf13 (rOb_k g0) 1 (v := .ref (κ (1000 * ((rR σ 7) + 1) + 1))) dX14_node_37 zw2312 (rv_c rfl) (kk := ?_)
  refine z_iload hC (pc := 40) 0 dX14_node_40 rfl ?_
  refine z_iload_n hC (pc := 42) 3 dX14_node_42 rfl rfl ?_
  obtain ⟨b14, h⟩ := h
  refine y_iast hC (pc := 43) (rAr_k g0 rfl rfl) dX14_node_43 b14 (v := x2) (kk := ?_)
  have W15 := W13.sA (p := (1000 * ((rR σ 7) + 1) + 1)) (i := (rF σ (rR σ 7) 7)) (x := x2) hx2
  refine z_aload_n hC (pc := 44) 1 dX14_node_44 rfl rfl ?_
  refine y_get hC (pc := 45) zf14 rOb_0 7 (v := .ref (κ (rR σ 7))) dX14_node_45 zw2475 (rv_g rfl rfl g0) (kk := ?_)
  refine y_getN hC (pc := 48) zf13 (rOb_k g0) 2 (v := .ref (κ (1000 * ((rR σ 7) + 1) + 2))) dX14_node_48 zw2314 (rv_c rfl) (kk := ?_)
  refine z_iload hC (pc := 51) 0 dX14_node_51 rfl ?_
  refine z_iload_n hC (pc := 53) 4 dX14_node_53 rfl rfl ?_
  obtain ⟨b16, h⟩ := h
  refine y_iast hC (pc := 54) (rAr_k g0 rfl rfl) dX14_node_54 b16 (v := x3) (kk := ?_)
  have W17 := W15.sA (p := (1000 * ((rR σ 7) + 1) + 2)) (i := (rF σ (rR σ 7) 7)) (x := x3) hx3
  refine z_aload_n hC (pc := 55) 1 dX14_node_55 rfl rfl ?_
  refine y_get hC (pc := 56) zf14 rOb_0 7 (v := .ref (κ (rR σ 7))) dX14_node_56 zw2475 (rv_g rfl rfl g0) (kk := ?_)
  refine y_getN hC (pc := 59) zf13 (rOb_k g0) 3 (v := .ref (κ (1000 * ((rR σ 7) + 1) + 3))) dX14_node_59 zw2316 (rv_c rfl) (kk := ?_)
  refine z_iload hC (pc := 62) 0 dX14_node_62 rfl ?_
  refine z_iconst hC (pc := 64) (v := Int32.ofInt 0) dX14_node_64 (by decide) ?_
  obtain ⟨b18, h⟩ := h
  refine y_iast hC (pc := 65) (rAr_k g0 rfl rfl) dX14_node_65 b18 (v := 0) (kk := ?_)
  have W19 := W17.sA (p := (1000 * ((rR σ 7) + 1) + 3)) (i := (rF σ (rR σ 7) 7)) (x := 0) (r_lit rfl)
  refine z_aload_n hC (pc := 66) 1 dX14_node_66 rfl rfl ?_
  refine y_get hC (pc := 67) zf14 rOb_0 7 (v := .ref (κ (rR σ 7))) dX14_node_67 zw2475 (rv_g rfl rfl g0) (kk := ?_)
  refine y_getN hC (pc := 70) zf13 (rOb_k g0) 4 (v := .ref (κ (1000 * ((rR σ 7) + 1) + 4))) dX14_node_70 zw2318 (rv_c rfl) (kk := ?_)
  refine z_iload hC (pc := 73) 0 dX14_node_73 rfl ?_
  refine z_iconst hC (pc := 75) (v := Int32.ofInt 0) dX14_node_75 (by decide) ?_
  obtain ⟨b20, h⟩ := h
  refine y_iast hC (pc := 76) (rAr_k g0 rfl rfl) dX14_node_76 b20 (v := 0) (kk := ?_)
  have W21 := W19.sA (p := (1000 * ((rR σ 7) + 1) + 4)) (i := (rF σ (rR σ 7) 7)) (x := 0) (r_lit rfl)
  refine z_aload_n hC (pc := 77) 1 dX14_node_77 rfl rfl ?_
  refine y_get hC (pc := 78) zf14 rOb_0 7 (v := .ref (κ (rR σ 7))) dX14_node_78 zw2475 (rv_g rfl rfl g0) (kk := ?_)
  refine y_getN hC (pc := 81) zf13 (rOb_k g0) 5 (v := .ref (κ (1000 * ((rR σ 7) + 1) + 5))) dX14_node_81 zw2320 (rv_c rfl) (kk := ?_)
  refine z_iload hC (pc := 84) 0 dX14_node_84 rfl ?_
  refine z_iconst hC (pc := 86) (v := Int32.ofInt 0) dX14_node_86 (by decide) ?_
  obtain ⟨b22, h⟩ := h
  refine y_iast hC (pc := 87) (rAr_k g0 rfl rfl) dX14_node_87 b22 (v := 0) (kk := ?_)
  have W23 := W21.sA (p := (1000 * ((rR σ 7) + 1) + 5)) (i := (rF σ (rR σ 7) 7)) (x := 0) (r_lit rfl)
  refine z_aload_n hC (pc := 88) 1 dX14_node_88 rfl rfl ?_
  refine y_get hC (pc := 89) zf14 rOb_0 7 (v := .ref (κ (rR σ 7))) dX14_node_89 zw2475 (rv_g rfl rfl g0) (kk := ?_)
  refine y_getN hC (pc := 92) zf13 (rOb_k g0) 6 (v := .ref (κ (1000 * ((rR σ 7) + 1) + 6))) dX14_node_92 zw2322 (rv_c rfl) (kk := ?_)
  refine z_iload hC (pc := 95) 0 dX14_node_95 rfl ?_
  refine z_bipush hC (pc := 97) (v := Int32.ofInt 8) dX14_node_97 (by decide) ?_
  refine z_iload hC (pc := 99) 5 dX14_node_99 rfl ?_
  refine y_imul hC (pc := 101) (v := (8 * x4)) dX14_node_101 rfl ?_
  refine z_aload_n hC (pc := 102) 1 dX14_node_102 rfl rfl ?_
  refine y_get hC (pc := 103) zf14 rOb_0 14 (v := iv (rF σ 0 14)) dX14_node_103 zw2481 (rv_i (Or.inl rfl) ((F_sF_ne (by decide)).trans rfl)) (kk := ?_)
  have h := h (hwf.f _ _)
  refine y_iadd hC (pc := 106) (v := ((8 * x4) + (rF σ 0 14))) dX14_node_106 rfl ?_
  obtain ⟨b24, h⟩ := h
  obtain ⟨r25, h⟩ := h
  refine y_iast hC (pc := 107) (rAr_k g0 rfl rfl) dX14_node_107 b24 (v := ((8 * x4) + (rF σ 0 14))) (kk := ?_)
  have W26 := W23.sA (p := (1000 * ((rR σ 7) + 1) + 6)) (i := (rF σ (rR σ 7) 7)) (x := ((8 * x4) + (rF σ 0 14))) r25
  refine z_iload hC (pc := 108) 0 dX14_node_108 rfl ?_
  exact y_reti hR dX14_node_110 rfl (hwf.f _ _) W26 (Nat.le_of_ble_eq_true rfl) (Nat.le_of_ble_eq_true rfl) ⟨(rKeep.tr (rKeep.tr (rKeep.tr (rKeep.tr (rKeep.tr (rKeep.tr (rKeep.tr (rKeep.tr rKeep.rf (rKeep.sFk (f := 7) g0) rfl rfl rfl rfl rfl) (rKeep.sAk (f := 0) g0 (by decide)) rfl rfl rfl rfl rfl) (rKeep.sAk (f := 1) g0 (by decide)) rfl rfl rfl rfl rfl) (rKeep.sAk (f := 2) g0 (by decide)) rfl rfl rfl rfl rfl) (rKeep.sAk (f := 3) g0 (by decide)) rfl rfl rfl rfl rfl) (rKeep.sAk (f := 4) g0 (by decide)) rfl rfl rfl rfl rfl) (rKeep.sAk (f := 5) g0 (by decide)) rfl rfl rfl rfl rfl) (rKeep.sAk (f := 6) g0 (by decide)) rfl rfl rfl rfl rfl), h⟩
theorem kX14_node_t (l : Launch) (G : zG) (κ : Nat → Nat) (σ : rS) (x1 : Int) (x2 : Int) (x3 : Int) (x4 : Int) (gg : Nat) (hwf : rWF σ) (hx1 : rng x1) (hx2 : rng x2) (hx3 : rng x3) (hx4 : rng x4) (hp : pre_X14_node_t σ x1 x2 x3 x4 gg) : rMi l G κ yX14_node cX14_node 6 .int 1 0 [.ref (κ 0), iv x1, iv x2, iv x3, iv x4] σ (fun x s => rKeep 0 0x80 0 0x7f 0 σ s ∧ post_X14_node_t σ x1 x2 x3 x4 gg x s) := wX14_node_t l G κ σ x1 x2 x3 x4 gg hwf hx1 hx2 hx3 hx4 (post_X14_node_t σ x1 x2 x3 x4 gg) (vX14_node_t σ x1 x2 x3 x4 gg hwf hx1 hx2 hx3 hx4 hp) 
def pre_X14_check_t (σ : rS) (x1 : Int) (x2 : Int) (x3 : Int) (x4 : Int) (gg : Nat) : Prop := rR σ 7 = gg ∧ rgk gg ∧ 0 ≤ (rF σ gg 38) ∧ (rF σ gg 38) < 13000
def post_X14_check_t (σ : rS) (x1 : Int) (x2 : Int) (x3 : Int) (x4 : Int) (gg : Nat) (σ' : rS) : Prop := (rF σ' gg 38) = (rF σ gg 38) + 1 ∧ RG σ σ' gg 0 ∧ rA σ' (1000 * (gg + 1) + 33) (rF σ gg 38) = x1 ∧ rA σ' (1000 * (gg + 1) + 34) (rF σ gg 38) = x2 ∧ rA σ' (1000 * (gg + 1) + 35) (rF σ gg 38) = x3 ∧ (∀ j, j ≠ (rF σ gg 38) → rA σ' (1000 * (gg + 1) + 34) j = rA σ (1000 * (gg + 1) + 34) j)
def VC_X14_check_t (σ : rS) (x1 : Int) (x2 : Int) (x3 : Int) (x4 : Int) (gg : Nat) (Q : rS → Prop) : Prop := rgk (rR σ 7) ∧ (rng (rF σ (rR σ 7) 38) → (0 ≤ (rF σ (rR σ 7) 38) ∧ (rF σ (rR σ 7) 38) < 13000) ∧ (0 ≤ (rF σ (rR σ 7) 38) ∧ (rF σ (rR σ 7) 38) < 13000) ∧ (0 ≤ (rF σ (rR σ 7) 38) ∧ (rF σ (rR σ 7) 38) < 13000) ∧ (0 ≤ (rF σ (rR σ 7) 38) ∧ (rF σ (rR σ 7) 38) < 13000) ∧ (rng (rF σ 0 14) → (0 ≤ (rF σ (rR σ 7) 38) ∧ (rF σ (rR σ 7) 38) < 13000) ∧ rng ((rF σ (rR σ 7) 38) + 1) ∧ Q (sF (sA (sA (sA (sA (sA σ (1000 * ((rR σ 7) + 1) + 33) (rF σ (rR σ 7) 38) x1) (1000 * ((rR σ 7) + 1) + 34) (rF σ (rR σ 7) 38) x2) (1000 * ((rR σ 7) + 1) + 35) (rF σ (rR σ 7) 38) x3) (1000 * ((rR σ 7) + 1) + 36) (rF σ (rR σ 7) 38) x4) (1000 * ((rR σ 7) + 1) + 37) (rF σ (rR σ 7) 38) (rF σ 0 14)) (rR σ 7) 38 ((rF σ (rR σ 7) 38) + 1))))
set_option maxHeartbeats 20000000 in
theorem vX14_check_t (σ : rS) (x1 : Int) (x2 : Int) (x3 : Int) (x4 : Int) (gg : Nat) (hwf : rWF σ) (hx1 : rng x1) (hx2 : rng x2) (hx3 : rng x3) (hx4 : rng x4) (hp : pre_X14_check_t σ x1 x2 x3 x4 gg) : VC_X14_check_t σ x1 x2 x3 x4 gg (post_X14_check_t σ x1 x2 x3 x4 gg) := by
  unfold pre_X14_check_t at hp
  obtain ⟨hp_1, hp_2, hp_3, hp_4⟩ := hp
  unfold rng at hx1 hx2 hx3 hx4
  subst hp_1
  unfold VC_X14_check_t
  refine ⟨(by (all_goals (repeat' (first | with_reducible intro _ | with_reducible apply And.intro))); all_goals (first | assumption | trivial | omega | (have zz_ := fz_z (by assumption); omega) | (split <;> omega) | (exact RG.chk hp_2 rfl) | grind (splits := 20) [])), ?_⟩
  intro hr_; unfold rng at hr_
  refine ⟨(by (all_goals (repeat' (first | with_reducible intro _ | with_reducible apply And.intro))); all_goals (first | assumption | trivial | omega | (have zz_ := fz_z (by assumption); omega) | (split <;> omega) | (exact RG.chk hp_2 rfl) | grind (splits := 20) [])), ?_⟩
  refine ⟨(by (try simp only [reduceIte, and_true, true_and, and_false, false_and, and_self, Nat.reduceEqDiff, fz_sA, rF_sA, rA_sA, rR_sA, tr_g33, TPRp_gA33, WNp_gA33, VMp_gA33, KYp_gA33, PPp_gA33, WFp_gA33]); (all_goals (repeat' (first | with_reducible intro _ | with_reducible apply And.intro))); all_goals (first | assumption | trivial | omega | (have zz_ := fz_z (by assumption); omega) | (split <;> omega) | (exact RG.chk hp_2 rfl) | grind (splits := 20) [])), ?_⟩
  refine ⟨(by (try simp only [reduceIte, and_true, true_and, and_false, false_and, and_self, Nat.reduceEqDiff, fz_sA, rF_sA, rA_sA, rR_sA, tr_g33, TPRp_gA33, WNp_gA33, VMp_gA33, KYp_gA33, PPp_gA33, WFp_gA33, WNp_g34 hp_2, tr_g34, TPRp_gA34, VMp_gA34, KYp_gA34, PPp_gA34, WFp_gA34]); (all_goals (repeat' (first | with_reducible intro _ | with_reducible apply And.intro))); all_goals (first | assumption | trivial | omega | (have zz_ := fz_z (by assumption); omega) | (split <;> omega) | (exact RG.chk hp_2 rfl) | grind (splits := 20) [])), ?_⟩
  refine ⟨(by (try simp only [reduceIte, and_true, true_and, and_false, false_and, and_self, Nat.reduceEqDiff, fz_sA, rF_sA, rA_sA, rR_sA, tr_g33, TPRp_gA33, WNp_gA33, VMp_gA33, KYp_gA33, PPp_gA33, WFp_gA33, WNp_g34 hp_2, tr_g34, TPRp_gA34, VMp_gA34, KYp_gA34, PPp_gA34, WFp_gA34, tr_g35, TPRp_gA35, VMp_gA35, KYp_gA35, PPp_gA35, WFp_gA35]); (all_goals (repeat' (first | with_reducible intro _ | with_reducible apply And.intro))); all_goals (first | assumption | trivial | omega | (have zz_ := fz_z (by assumption); omega) | (split <;> omega) | (exact RG.chk hp_2 rfl) | grind (splits := 20) [])), ?_⟩
  intro hr_; unfold rng at hr_
  refine ⟨(by (try simp only [reduceIte, and_true, true_and, and_false, false_and, and_self, Nat.reduceEqDiff, fz_sA, rF_sA, rA_sA, rR_sA, tr_g33, TPRp_gA33, WNp_gA33, VMp_gA33, KYp_gA33, PPp_gA33, WFp_gA33, WNp_g34 hp_2, tr_g34, TPRp_gA34, VMp_gA34, KYp_gA34, PPp_gA34, WFp_gA34, tr_g35, TPRp_gA35, VMp_gA35, KYp_gA35, PPp_gA35, WFp_gA35, tr_g36, RG_rg36, RG_lg36, TPRp_gA36, VMp_gA36, KYp_gA36, PPp_gA36, WFp_gA36]); (all_goals (repeat' (first | with_reducible intro _ | with_reducible apply And.intro))); all_goals (first | assumption | trivial | omega | (have zz_ := fz_z (by assumption); omega) | (split <;> omega) | (exact RG.chk hp_2 rfl) | grind (splits := 20) [])), ?_⟩
  refine ⟨(by (try simp only [rng, reduceIte, and_true, true_and, and_false, false_and, and_self, Nat.reduceEqDiff, fz_sA, rF_sA, rA_sA, rR_sA, tr_g33, TPRp_gA33, WNp_gA33, VMp_gA33, KYp_gA33, PPp_gA33, WFp_gA33, WNp_g34 hp_2, tr_g34, TPRp_gA34, VMp_gA34, KYp_gA34, PPp_gA34, WFp_gA34, tr_g35, TPRp_gA35, VMp_gA35, KYp_gA35, PPp_gA35, WFp_gA35, tr_g36, RG_rg36, RG_lg36, TPRp_gA36, VMp_gA36, KYp_gA36, PPp_gA36, WFp_gA36, tr_g37, RG_rg37, RG_lg37, TPRp_gA37, VMp_gA37, KYp_gA37, PPp_gA37, WFp_gA37]); (all_goals (repeat' (first | with_reducible intro _ | with_reducible apply And.intro))); all_goals (first | assumption | trivial | omega | (have zz_ := fz_z (by assumption); omega) | (split <;> omega) | (exact RG.chk hp_2 rfl) | grind (splits := 20) [])), ?_⟩
  exact (by (try simp only [post_X14_check_t, Nat.add_left_cancel_iff, reduceIte, and_true, true_and, and_false, false_and, and_self, Nat.reduceEqDiff, fz_sA, rF_sA, rA_sA, rR_sA, tr_g33, TPRp_gA33, WNp_gA33, VMp_gA33, KYp_gA33, PPp_gA33, WFp_gA33, WNp_g34 hp_2, tr_g34, TPRp_gA34, VMp_gA34, KYp_gA34, PPp_gA34, WFp_gA34, tr_g35, TPRp_gA35, VMp_gA35, KYp_gA35, PPp_gA35, WFp_gA35, tr_g36, RG_rg36, RG_lg36, TPRp_gA36, VMp_gA36, KYp_gA36, PPp_gA36, WFp_gA36, tr_g37, RG_rg37, RG_lg37, TPRp_gA37, VMp_gA37, KYp_gA37, PPp_gA37, WFp_gA37, fz_sF38, rF_sF, rA_sF, rR_sF, tr_sF]); (all_goals (repeat' (first | with_reducible intro _ | with_reducible apply And.intro))); all_goals (first | assumption | trivial | omega | (have zz_ := fz_z (by assumption); omega) | (split <;> omega) | (exact RG.chk hp_2 rfl) | grind (splits := 20) []))
theorem wX14_check_t (l : Launch) (G : zG) (κ : Nat → Nat) (σ : rS) (x1 : Int) (x2 : Int) (x3 : Int) (x4 : Int) (gg : Nat) (hwf : rWF σ) (hx1 : rng x1) (hx2 : rng x2) (hx3 : rng x3) (hx4 : rng x4) (Q : rS → Prop) (h : VC_X14_check_t σ x1 x2 x3 x4 gg Q) : rMv l G κ yX14_check cX14_check 5 1 0 [.ref (κ 0), iv x1, iv x2, iv x3, iv x4] σ (fun s => rKeep 0 0x4000000000 0 0x3e00000000 0 σ s ∧ Q s) := by
  refine zMv.intro (by decide +kernel) (Nat.le_of_ble_eq_true rfl) (fun X hC hR => ?_)
  obtain ⟨g0, h⟩ := h
  refine z_aload_n hC (pc := 0) 0 dX14_check_0 rfl rfl ?_
  refine y_get hC (pc := 1) zf14 rOb_0 7 (v := .ref (κ (rR σ 7))) dX14_check_1 zw2475 (rv_g rfl rfl g0) (kk := ?_)
  refine y_getN hC (pc := 4) zf13 (rOb_k g0) 33 (v := .ref (κ (1000 * ((rR σ 7) + 1) + 33))) dX14_check_4 zw2374 (rv_c rfl) (kk := ?_)
  refine z_aload_n hC (pc := 7) 0 dX14_check_7 rfl rfl ?_
  refine y_get hC (pc := 8) zf14 rOb_0 7 (v := .ref (κ (rR σ 7))) dX14_check_8 zw2475 (rv_g rfl rfl g0) (kk := ?_)
  refine y_getN hC (pc := 11) zf13 (rOb_k g0) 38 (v := iv (rF σ (rR σ 7) 38)) dX14_check_11 zw2384 (rv_i (Or.inl rfl) rfl) (kk := ?_)
  have h := h (hwf.f _ _)
  refine z_iload_n hC (pc := 14) 1 dX14_check_14 rfl rfl ?_
  obtain ⟨b10, h⟩ := h
  refine y_iast hC (pc := 15) (rAr_k g0 rfl rfl) dX14_check_15 b10 (v := x1) (kk := ?_)
  have W11 := hwf.sA (p := (1000 * ((rR σ 7) + 1) + 33)) (i := (rF σ (rR σ 7) 38)) (x := x1) hx1
  refine z_aload_n hC (pc := 16) 0 dX14_check_16 rfl rfl ?_
  refine y_get hC (pc := 17) zf14 rOb_0 7 (v := .ref (κ (rR σ 7))) dX14_check_17 zw2475 (rv_g rfl rfl g0) (kk := ?_)
  refine y_getN hC (pc := 20) zf13 (rOb_k g0) 34 (v := .ref (κ (1000 * ((rR σ 7) + 1) + 34))) dX14_check_20 zw2376 (rv_c rfl) (kk := ?_)
  refine z_aload_n hC (pc := 23) 0 dX14_check_23 rfl rfl ?_
  refine y_get hC (pc := 24) zf14 rOb_0 7 (v := .ref (κ (rR σ 7))) dX14_check_24 zw2475 (rv_g rfl rfl g0) (kk := ?_)
  refine y_getN hC (pc := 27) zf13 (rOb_k g0) 38 (v := iv (rF σ (rR σ 7) 38)) dX14_check_27 zw2384 (rv_i (Or.inl rfl) rfl) (kk := ?_)
  refine z_iload_n hC (pc := 30) 2 dX14_check_30 rfl rfl ?_
  obtain ⟨b12, h⟩ := h
  refine y_iast hC (pc := 31) (rAr_k g0 rfl rfl) dX14_check_31 b12 (v := x2) (kk := ?_)
  have W13 := W11.sA (p := (1000 * ((rR σ 7) + 1) + 34)) (i := (rF σ (rR σ 7) 38)) (x := x2) hx2
  refine z_aload_n hC (pc := 32) 0 dX14_check_32 rfl rfl ?_
  refine y_get hC (pc := 33) zf14 rOb_0 7 (v := .ref (κ (rR σ 7))) dX14_check_33 zw2475 (rv_g rfl rfl g0) (kk := ?_)
  refine y_getN hC (pc := 36) zf13 (rOb_k g0) 35 (v := .ref (κ (1000 * ((rR σ 7) + 1) + 35))) dX14_check_36 zw2378 (rv_c rfl) (kk := ?_)
  refine z_aload_n hC (pc := 39) 0 dX14_check_39 rfl rfl ?_
  refine y_get hC (pc := 40) zf14 rOb_0 7 (v := .ref (κ (rR σ 7))) dX14_check_40 zw2475 (rv_g rfl rfl g0) (kk := ?_)
  refine y_getN hC (pc := 43) zf13 (rOb_k g0) 38 (v := iv (rF σ (rR σ 7) 38)) dX14_check_43 zw2384 (rv_i (Or.inl rfl) rfl) (kk := ?_)
  refine z_iload_n hC (pc := 46) 3 dX14_check_46 rfl rfl ?_
  obtain ⟨b14, h⟩ := h
  refine y_iast hC (pc := 47) (rAr_k g0 rfl rfl) dX14_check_47 b14 (v := x3) (kk := ?_)
  have W15 := W13.sA (p := (1000 * ((rR σ 7) + 1) + 35)) (i := (rF σ (rR σ 7) 38)) (x := x3) hx3
  refine z_aload_n hC (pc := 48) 0 dX14_check_48 rfl rfl ?_
  refine y_get hC (pc := 49) zf14 rOb_0 7 (v := .ref (κ (rR σ 7))) dX14_check_49 zw2475 (rv_g rfl rfl g0) (kk := ?_)
  refine y_getN hC (pc := 52) zf13 (rOb_k g0) 36 (v := .ref (κ (1000 * ((rR σ 7) + 1) + 36))) dX14_check_52 zw2380 (rv_c rfl) (kk := ?_)
  refine z_aload_n hC (pc := 55) 0 dX14_check_55 rfl rfl ?_
  refine y_get hC (pc := 56) zf14 rOb_0 7 (v := .ref (κ (rR σ 7))) dX14_check_56 zw2475 (rv_g rfl rfl g0) (kk := ?_)
  refine y_getN hC (pc := 59) zf13 (rOb_k g0) 38 (v := iv (rF σ (rR σ 7) 38)) dX14_check_59 zw2384 (rv_i (Or.inl rfl) rfl) (kk := ?_)
  refine z_iload hC (pc := 62) 4 dX14_check_62 rfl ?_
  obtain ⟨b16, h⟩ := h
  refine y_iast hC (pc := 64) (rAr_k g0 rfl rfl) dX14_check_64 b16 (v := x4) (kk := ?_)
  have W17 := W15.sA (p := (1000 * ((rR σ 7) + 1) + 36)) (i := (rF σ (rR σ 7) 38)) (x := x4) hx4
  refine z_aload_n hC (pc := 65) 0 dX14_check_65 rfl rfl ?_
  refine y_get hC (pc := 66) zf14 rOb_0 7 (v := .ref (κ (rR σ 7))) dX14_check_66 zw2475 (rv_g rfl rfl g0) (kk := ?_)
  refine y_getN hC (pc := 69) zf13 (rOb_k g0) 37 (v := .ref (κ (1000 * ((rR σ 7) + 1) + 37))) dX14_check_69 zw2382 (rv_c rfl) (kk := ?_)
  refine z_aload_n hC (pc := 72) 0 dX14_check_72 rfl rfl ?_
  refine y_get hC (pc := 73) zf14 rOb_0 7 (v := .ref (κ (rR σ 7))) dX14_check_73 zw2475 (rv_g rfl rfl g0) (kk := ?_)
  refine y_getN hC (pc := 76) zf13 (rOb_k g0) 38 (v := iv (rF σ (rR σ 7) 38)) dX14_check_76 zw2384 (rv_i (Or.inl rfl) rfl) (kk := ?_)
  refine z_aload_n hC (pc := 79) 0 dX14_check_79 rfl rfl ?_
  refine y_get hC (pc := 80) zf14 rOb_0 14 (v := iv (rF σ 0 14)) dX14_check_80 zw2481 (rv_i (Or.inl rfl) rfl) (kk := ?_)
  have h := h (hwf.f _ _)
  obtain ⟨b18, h⟩ := h
  refine y_iast hC (pc := 83) (rAr_k g0 rfl rfl) dX14_check_83 b18 (v := (rF σ 0 14)) (kk := ?_)
  have W19 := W17.sA (p := (1000 * ((rR σ 7) + 1) + 37)) (i := (rF σ (rR σ 7) 38)) (x := (rF σ 0 14)) (hwf.f _ _)
  refine z_aload_n hC (pc := 84) 0 dX14_check_84 rfl rfl ?_
  refine y_get hC (pc := 85) zf14 rOb_0 7 (v := .ref (κ (rR σ 7))) dX14_check_85 zw2475 (rv_g rfl rfl g0) (kk := ?_)
  refine z_dup hC (pc := 88) dX14_check_88 rfl ?_
  refine y_getN hC (pc := 89) zf13 (rOb_k g0) 38 (v := iv (rF σ (rR σ 7) 38)) dX14_check_89 zw2384 (rv_i (Or.inl rfl) rfl) (kk := ?_)
  refine z_iconst hC (pc := 92) (v := Int32.ofInt 1) dX14_check_92 (by decide) ?_
  refine y_iadd hC (pc := 93) (v := ((rF σ (rR σ 7) 38) + 1)) dX14_check_93 rfl ?_
  obtain ⟨r20, h⟩ := h
  refine y_putIN hC (pc := 94) zf13 (rOb_k g0) 38 (x := ((rF σ (rR σ 7) 38) + 1)) dX14_check_94 zw2384 (Or.inl rfl) rfl rfl (kk := ?_)
  have W21 := W19.sF (q := (rR σ 7)) (f := 38) (x := ((rF σ (rR σ 7) 38) + 1)) r20
  exact y_retv hR dX14_check_97 W21 (Nat.le_of_ble_eq_true rfl) (Nat.le_of_ble_eq_true rfl) ⟨(rKeep.tr (rKeep.tr (rKeep.tr (rKeep.tr (rKeep.tr (rKeep.tr rKeep.rf (rKeep.sAk (f := 33) g0 (by decide)) rfl rfl rfl rfl rfl) (rKeep.sAk (f := 34) g0 (by decide)) rfl rfl rfl rfl rfl) (rKeep.sAk (f := 35) g0 (by decide)) rfl rfl rfl rfl rfl) (rKeep.sAk (f := 36) g0 (by decide)) rfl rfl rfl rfl rfl) (rKeep.sAk (f := 37) g0 (by decide)) rfl rfl rfl rfl rfl) (rKeep.sFk (f := 38) g0) rfl rfl rfl rfl rfl), h⟩
theorem kX14_check_t (l : Launch) (G : zG) (κ : Nat → Nat) (σ : rS) (x1 : Int) (x2 : Int) (x3 : Int) (x4 : Int) (gg : Nat) (hwf : rWF σ) (hx1 : rng x1) (hx2 : rng x2) (hx3 : rng x3) (hx4 : rng x4) (hp : pre_X14_check_t σ x1 x2 x3 x4 gg) : rMv l G κ yX14_check cX14_check 5 1 0 [.ref (κ 0), iv x1, iv x2, iv x3, iv x4] σ (fun s => rKeep 0 0x4000000000 0 0x3e00000000 0 σ s ∧ post_X14_check_t σ x1 x2 x3 x4 gg s) := wX14_check_t l G κ σ x1 x2 x3 x4 gg hwf hx1 hx2 hx3 hx4 (post_X14_check_t σ x1 x2 x3 x4 gg) (vX14_check_t σ x1 x2 x3 x4 gg hwf hx1 hx2 hx3 hx4 hp) 
def pre_X14_note_t (σ : rS) (x1 : Int) (x2 : Int) (x3 : Int) (gg : Nat) : Prop := 0 ≤ (rF σ 0 38) ∧ (rF σ 0 38) < 9000 ∧ 0 ≤ x3 ∧ x3 ≤ 4000 ∧ (1 ≤ x1 ∧ x1 ≤ 7 ∨ 20 ≤ x1 ∧ x1 ≤ 26) ∧ ((x1 = 4 ∨ x1 = 6 ∨ x1 = 7 ∨ x1 = 25) → 0 ≤ x2 ∧ x2 < 50000) ∧ WNp σ
def post_X14_note_t (σ : rS) (x1 : Int) (x2 : Int) (x3 : Int) (gg : Nat) (σ' : rS) : Prop := (rF σ' 0 38) = (rF σ 0 38) + 1 ∧ WNp σ' ∧ RG σ σ' gg 0 ∧ (rA σ' 1034 ((rF σ 0 38))) = x1 ∧ (rA σ' 1035 ((rF σ 0 38))) = x2 ∧ (rA σ' 1037 ((rF σ 0 38))) = 0 ∧ (∀ j, j ≠ (rF σ 0 38) → (rA σ' 1037 (j)) = (rA σ 1037 (j)))
def VC_X14_note_t (σ : rS) (x1 : Int) (x2 : Int) (x3 : Int) (gg : Nat) (Q : rS → Prop) : Prop := (rng (rF σ 0 38) → (0 ≤ (rF σ 0 38) ∧ (rF σ 0 38) < 9000) ∧ (0 ≤ (rF σ 0 38) ∧ (rF σ 0 38) < 9000) ∧ (0 ≤ (rF σ 0 38) ∧ (rF σ 0 38) < 9000) ∧ (0 ≤ (rF σ 0 38) ∧ (rF σ 0 38) < 9000) ∧ rng ((rF σ 0 38) + 1) ∧ Q (sF (sA (sA (sA (sA σ 1034 (rF σ 0 38) x1) 1035 (rF σ 0 38) x2) 1036 (rF σ 0 38) x3) 1037 (rF σ 0 38) (inar .boolean 0)) 0 38 ((rF σ 0 38) + 1)))
set_option maxHeartbeats 20000000 in
theorem vX14_note_t (σ : rS) (x1 : Int) (x2 : Int) (x3 : Int) (gg : Nat) (hwf : rWF σ) (hx1 : rng x1) (hx2 : rng x2) (hx3 : rng x3) (hp : pre_X14_note_t σ x1 x2 x3 gg) : VC_X14_note_t σ x1 x2 x3 gg (post_X14_note_t σ x1 x2 x3 gg) := by
  unfold pre_X14_note_t at hp
  obtain ⟨hp_1, hp_2, hp_3, hp_4, hp_5, hp_6, hp_7⟩ := hp
  unfold rng at hx1 hx2 hx3
  unfold VC_X14_note_t
  intro hr_; unfold rng at hr_
  refine ⟨(by (all_goals (repeat' (first | with_reducible intro _ | with_reducible apply And.intro))); all_goals (first | assumption | trivial | omega | (have zz_ := fz_z (by assumption); omega) | (split <;> omega) | (exact RG.note rfl) | (exact WNp_note hp_7 hp_3 hp_4 hp_5 hp_6 inar_b0) | (decide +kernel) | grind (splits := 20) [])), ?_⟩
  refine ⟨(by (try simp only [reduceIte, and_true, true_and, and_false, false_and, and_self, Nat.reduceEqDiff, fz_sA, rF_sA, rA_sA, rR_sA, tr_a34, TPRp_sA34, VMp_sA34, KYp_sA34, PPp_sA34, WFp_sA34]); (all_goals (repeat' (first | with_reducible intro _ | with_reducible apply And.intro))); all_goals (first | assumption | trivial | omega | (have zz_ := fz_z (by assumption); omega) | (split <;> omega) | (exact RG.note rfl) | (exact WNp_note hp_7 hp_3 hp_4 hp_5 hp_6 inar_b0) | (decide +kernel) | grind (splits := 20) [])), ?_⟩
  refine ⟨(by (try simp only [reduceIte, and_true, true_and, and_false, false_and, and_self, Nat.reduceEqDiff, fz_sA, rF_sA, rA_sA, rR_sA, tr_a34, TPRp_sA34, VMp_sA34, KYp_sA34, PPp_sA34, WFp_sA34, tr_a35, TPRp_sA35, VMp_sA35, KYp_sA35, PPp_sA35, WFp_sA35]); (all_goals (repeat' (first | with_reducible intro _ | with_reducible apply And.intro))); all_goals (first | assumption | trivial | omega | (have zz_ := fz_z (by assumption); omega) | (split <;> omega) | (exact RG.note rfl) | (exact WNp_note hp_7 hp_3 hp_4 hp_5 hp_6 inar_b0) | (decide +kernel) | grind (splits := 20) [])), ?_⟩
  refine ⟨(by (try simp only [reduceIte, and_true, true_and, and_false, false_and, and_self, Nat.reduceEqDiff, fz_sA, rF_sA, rA_sA, rR_sA, tr_a34, TPRp_sA34, VMp_sA34, KYp_sA34, PPp_sA34, WFp_sA34, tr_a35, TPRp_sA35, VMp_sA35, KYp_sA35, PPp_sA35, WFp_sA35, tr_a36, RG_la36, RG_ra36, TPRp_sA36, VMp_sA36, KYp_sA36, PPp_sA36, WFp_sA36]); (all_goals (repeat' (first | with_reducible intro _ | with_reducible apply And.intro))); all_goals (first | assumption | trivial | omega | (have zz_ := fz_z (by assumption); omega) | (split <;> omega) | (exact RG.note rfl) | (exact WNp_note hp_7 hp_3 hp_4 hp_5 hp_6 inar_b0) | (decide +kernel) | grind (splits := 20) [])), ?_⟩
  refine ⟨(by (try simp only [rng, reduceIte, and_true, true_and, and_false, false_and, and_self, Nat.reduceEqDiff, fz_sA, rF_sA, rA_sA, rR_sA, tr_a34, TPRp_sA34, VMp_sA34, KYp_sA34, PPp_sA34, WFp_sA34, tr_a35, TPRp_sA35, VMp_sA35, KYp_sA35, PPp_sA35, WFp_sA35, tr_a36, RG_la36, RG_ra36, TPRp_sA36, VMp_sA36, KYp_sA36, PPp_sA36, WFp_sA36, tr_a37, RG_la37, RG_ra37, TPRp_sA37, VMp_sA37, KYp_sA37, PPp_sA37, WFp_sA37]); (all_goals (repeat' (first | with_reducible intro _ | with_reducible apply And.intro))); all_goals (first | assumption | trivial | omega | (have zz_ := fz_z (by assumption); omega) | (split <;> omega) | (exact RG.note rfl) | (exact WNp_note hp_7 hp_3 hp_4 hp_5 hp_6 inar_b0) | (decide +kernel) | grind (splits := 20) [])), ?_⟩
  exact (by (try simp only [post_X14_note_t, reduceIte, and_true, true_and, and_false, false_and, and_self, Nat.reduceEqDiff, fz_sA, rF_sA, rA_sA, rR_sA, tr_a34, TPRp_sA34, VMp_sA34, KYp_sA34, PPp_sA34, WFp_sA34, tr_a35, TPRp_sA35, VMp_sA35, KYp_sA35, PPp_sA35, WFp_sA35, tr_a36, RG_la36, RG_ra36, TPRp_sA36, VMp_sA36, KYp_sA36, PPp_sA36, WFp_sA36, tr_a37, RG_la37, RG_ra37, TPRp_sA37, VMp_sA37, KYp_sA37, PPp_sA37, WFp_sA37, fz_sF38, rF_sF, rA_sF, rR_sF, tr_sF, TPRp_sF38, VMp_sF38, KYp_sF38, PPp_sF38, WFp_sF38]); (all_goals (repeat' (first | with_reducible intro _ | with_reducible apply And.intro))); all_goals (first | assumption | trivial | omega | (have zz_ := fz_z (by assumption); omega) | (split <;> omega) | (exact RG.note rfl) | (exact WNp_note hp_7 hp_3 hp_4 hp_5 hp_6 inar_b0) | (decide +kernel) | grind (splits := 20) []))
theorem wX14_note_t (l : Launch) (G : zG) (κ : Nat → Nat) (σ : rS) (x1 : Int) (x2 : Int) (x3 : Int) (gg : Nat) (hwf : rWF σ) (hx1 : rng x1) (hx2 : rng x2) (hx3 : rng x3) (Q : rS → Prop) (h : VC_X14_note_t σ x1 x2 x3 gg Q) : rMv l G κ yX14_note cX14_note 4 1 0 [.ref (κ 0), iv x1, iv x2, iv x3] σ (fun s => rKeep 0x4000000000 0 0x3c00000000 0 0 σ s ∧ Q s) := by
  refine zMv.intro (by decide +kernel) (Nat.le_of_ble_eq_true rfl) (fun X hC hR => ?_)
  refine z_aload_n hC (pc := 0) 0 dX14_note_0 rfl rfl ?_
  refine y_get hC (pc := 1) zf14 rOb_0 34 (v := .ref (κ 1034)) dX14_note_1 zw2501 (rv_c rfl) (kk := ?_)
  refine z_aload_n hC (pc := 4) 0 dX14_note_4 rfl rfl ?_
  refine y_get hC (pc := 5) zf14 rOb_0 38 (v := iv (rF σ 0 38)) dX14_note_5 zw2505 (rv_i (Or.inl rfl) rfl) (kk := ?_)
  have h := h (hwf.f _ _)
  refine z_iload_n hC (pc := 8) 1 dX14_note_8 rfl rfl ?_
  obtain ⟨b10, h⟩ := h
  refine y_iast hC (pc := 9) (rAr_m rfl) dX14_note_9 b10 (v := x1) (kk := ?_)
  have W11 := hwf.sA (p := 1034) (i := (rF σ 0 38)) (x := x1) hx1
  refine z_aload_n hC (pc := 10) 0 dX14_note_10 rfl rfl ?_
  refine y_get hC (pc := 11) zf14 rOb_0 35 (v := .ref (κ 1035)) dX14_note_11 zw2502 (rv_c rfl) (kk := ?_)
  refine z_aload_n hC (pc := 14) 0 dX14_note_14 rfl rfl ?_
  refine y_get hC (pc := 15) zf14 rOb_0 38 (v := iv (rF σ 0 38)) dX14_note_15 zw2505 (rv_i (Or.inl rfl) rfl) (kk := ?_)
  refine z_iload_n hC (pc := 18) 2 dX14_note_18 rfl rfl ?_
  obtain ⟨b12, h⟩ := h
  refine y_iast hC (pc := 19) (rAr_m rfl) dX14_note_19 b12 (v := x2) (kk := ?_)
  have W13 := W11.sA (p := 1035) (i := (rF σ 0 38)) (x := x2) hx2
  refine z_aload_n hC (pc := 20) 0 dX14_note_20 rfl rfl ?_
  refine y_get hC (pc := 21) zf14 rOb_0 36 (v := .ref (κ 1036)) dX14_note_21 zw2503 (rv_c rfl) (kk := ?_)
  refine z_aload_n hC (pc := 24) 0 dX14_note_24 rfl rfl ?_
  refine y_get hC (pc := 25) zf14 rOb_0 38 (v := iv (rF σ 0 38)) dX14_note_25 zw2505 (rv_i (Or.inl rfl) rfl) (kk := ?_)
  refine z_iload_n hC (pc := 28) 3 dX14_note_28 rfl rfl ?_
  obtain ⟨b14, h⟩ := h
  refine y_iast hC (pc := 29) (rAr_m rfl) dX14_note_29 b14 (v := x3) (kk := ?_)
  have W15 := W13.sA (p := 1036) (i := (rF σ 0 38)) (x := x3) hx3
  refine z_aload_n hC (pc := 30) 0 dX14_note_30 rfl rfl ?_
  refine y_get hC (pc := 31) zf14 rOb_0 37 (v := .ref (κ 1037)) dX14_note_31 zw2504 (rv_c rfl) (kk := ?_)
  refine z_aload_n hC (pc := 34) 0 dX14_note_34 rfl rfl ?_
  refine y_get hC (pc := 35) zf14 rOb_0 38 (v := iv (rF σ 0 38)) dX14_note_35 zw2505 (rv_i (Or.inl rfl) rfl) (kk := ?_)
  refine z_iconst hC (pc := 38) (v := Int32.ofInt 0) dX14_note_38 (by decide) ?_
  obtain ⟨b16, h⟩ := h
  refine y_zast hC (pc := 39) (rAr_m rfl) dX14_note_39 b16 (v := 0) (kk := ?_)
  have W17 := W15.sA (p := 1037) (i := (rF σ 0 38)) (x := (inar .boolean 0)) (inar_rng _ _)
  refine z_aload_n hC (pc := 40) 0 dX14_note_40 rfl rfl ?_
  refine z_dup hC (pc := 41) dX14_note_41 rfl ?_
  refine y_get hC (pc := 42) zf14 rOb_0 38 (v := iv (rF σ 0 38)) dX14_note_42 zw2505 (rv_i (Or.inl rfl) rfl) (kk := ?_)
  refine z_iconst hC (pc := 45) (v := Int32.ofInt 1) dX14_note_45 (by decide) ?_
  refine y_iadd hC (pc := 46) (v := ((rF σ 0 38) + 1)) dX14_note_46 rfl ?_
  obtain ⟨r18, h⟩ := h
  refine y_putI hC (pc := 47) zf14 rOb_0 38 (x := ((rF σ 0 38) + 1)) dX14_note_47 zw2505 (Or.inl rfl) rfl rfl (kk := ?_)
  have W19 := W17.sF (q := 0) (f := 38) (x := ((rF σ 0 38) + 1)) r18
  exact y_retv hR dX14_note_50 W19 (Nat.le_of_ble_eq_true rfl) (Nat.le_of_ble_eq_true rfl) ⟨(rKeep.tr (rKeep.tr (rKeep.tr (rKeep.tr (rKeep.tr rKeep.rf (rKeep.sA0 (f := 34) (by decide)) rfl rfl rfl rfl rfl) (rKeep.sA0 (f := 35) (by decide)) rfl rfl rfl rfl rfl) (rKeep.sA0 (f := 36) (by decide)) rfl rfl rfl rfl rfl) (rKeep.sA0 (f := 37) (by decide)) rfl rfl rfl rfl rfl) (rKeep.sF0 (f := 38)) rfl rfl rfl rfl rfl), h⟩
theorem kX14_note_t (l : Launch) (G : zG) (κ : Nat → Nat) (σ : rS) (x1 : Int) (x2 : Int) (x3 : Int) (gg : Nat) (hwf : rWF σ) (hx1 : rng x1) (hx2 : rng x2) (hx3 : rng x3) (hp : pre_X14_note_t σ x1 x2 x3 gg) : rMv l G κ yX14_note cX14_note 4 1 0 [.ref (κ 0), iv x1, iv x2, iv x3] σ (fun s => rKeep 0x4000000000 0 0x3c00000000 0 0 σ s ∧ post_X14_note_t σ x1 x2 x3 gg s) := wX14_note_t l G κ σ x1 x2 x3 gg hwf hx1 hx2 hx3 (post_X14_note_t σ x1 x2 x3 gg) (vX14_note_t σ x1 x2 x3 gg hwf hx1 hx2 hx3 hp) 
def pre_X14_keepString_t (σ : rS) (p1 n1 : Nat) (x2 : Int) (x3 : Int) (x4 : Int) (gg : Nat) : Prop := rR σ 7 = gg ∧ rgk gg ∧ 0 ≤ x2 ∧ x2 ≤ x3 ∧ x3 ≤ n1 ∧ n1 ≤ 4001 ∧ 0 ≤ (rF σ gg 9) ∧ (rF σ gg 9) + (x3 - x2) ≤ 60000 ∧ 0 ≤ (rF σ gg 7) ∧ (rF σ gg 7) < 50000 ∧ 0 ≤ x4 ∧ x4 ≤ 100000 ∧ 0 ≤ (rF σ 0 14) ∧ (rF σ 0 14) ≤ 7 ∧ x3 - x2 ≤ 4000 ∧ PNp σ
def post_X14_keepString_t (σ : rS) (p1 n1 : Nat) (x2 : Int) (x3 : Int) (x4 : Int) (gg : Nat) (r : Int) (σ' : rS) : Prop := r = (rF σ gg 7) ∧ (rF σ' gg 7) = (rF σ gg 7) + 1 ∧ (rF σ gg 9) ≤ (rF σ' gg 9) ∧ (rF σ' gg 9) ≤ (rF σ gg 9) + (x3 - x2) ∧ RG σ σ' gg 0 ∧ tr σ' gg 0 r = 30 ∧ 0 ≤ tr σ' gg 1 r ∧ 0 ≤ tr σ' gg 2 r ∧ tr σ' gg 2 r ≤ 4000 ∧ tr σ' gg 1 r + tr σ' gg 2 r ≤ 60000 ∧ tr σ' gg 5 r = 0 ∧ PNp σ'
def VC_X14_keepString_t (σ : rS) (p1 n1 : Nat) (x2 : Int) (x3 : Int) (x4 : Int) (gg : Nat) (Q : Int → rS → Prop) : Prop := rgk (rR σ 7) ∧ pre_X14_keep σ p1 n1 x2 x3 ∧ (∀ (s4 : rS), rWF s4 → (PNp σ → PNp s4) → rR s4 7 = rR σ 7 → rF s4 0 14 = rF σ 0 14 → rF s4 (rR σ 7) 7 = rF σ (rR σ 7) 7 → RG σ s4 (rR σ 7) 0 → post_X14_keep σ p1 n1 x2 x3 s4 → (rng (rF s4 0 24) → (rng (rF s4 0 25) → pre_X14_node_t s4 30 (rF s4 0 24) (rF s4 0 25) x4 gg ∧ (∀ (v20 : Int) (s20 : rS), rng v20 → rWF s20 → rR s20 7 = rR s4 7 → rF s20 0 14 = rF s4 0 14 → rF s20 0 24 = rF s4 0 24 → rF s20 0 25 = rF s4 0 25 → rF s20 (rR σ 7) 9 = rF s4 (rR σ 7) 9 → post_X14_node_t s4 30 (rF s4 0 24) (rF s4 0 25) x4 gg v20 s20 → Q v20 s20))))
set_option maxHeartbeats 20000000 in
theorem vX14_keepString_t (σ : rS) (p1 n1 : Nat) (x2 : Int) (x3 : Int) (x4 : Int) (gg : Nat) (hwf : rWF σ) (ha1 : rAr 3 n1 p1) (hx2 : rng x2) (hx3 : rng x3) (hx4 : rng x4) (hp : pre_X14_keepString_t σ p1 n1 x2 x3 x4 gg) : VC_X14_keepString_t σ p1 n1 x2 x3 x4 gg (post_X14_keepString_t σ p1 n1 x2 x3 x4 gg) := by
  unfold pre_X14_keepString_t at hp
  obtain ⟨hp_1, hp_2, hp_3, hp_4, hp_5, hp_6, hp_7, hp_8, hp_9, hp_10, hp_11, hp_12, hp_13, hp_14, hp_15, hp_16⟩ := hp
  unfold rng at hx2 hx3 hx4
  subst hp_1
  unfold VC_X14_keepString_t
  refine ⟨(by (all_goals (repeat' (first | with_reducible intro _ | with_reducible apply And.intro))); all_goals (first | assumption | trivial | omega | (have zz_ := fz_z (by assumption); omega) | (split <;> omega) | grind (splits := 20) [RG.tr0])), ?_⟩
  refine ⟨(by (try simp only [pre_X14_keep]); (all_goals (repeat' (first | with_reducible intro _ | with_reducible apply And.intro))); all_goals (first | assumption | trivial | omega | (have zz_ := fz_z (by assumption); omega) | (split <;> omega) | grind (splits := 20) [RG.tr0])), ?_⟩
  intro s4 Ws4 e4_0 e4_1 e4_2 e4_3 R4 q4
  unfold post_X14_keep at q4
  obtain ⟨q4_1, q4_2, q4_3, q4_4⟩ := q4
  have Ks4 : rR s4 7 = rR σ 7 := by first | assumption | ((try simp only [rR_sF, rR_sA, rR_sT, rR_sL] at e4_0 e4_1 e4_2 e4_3 R4); omega)
  have PNp_4 := e4_0 hp_16; clear e4_0
  intro hr_; unfold rng at hr_
  intro hr_; unfold rng at hr_
  refine ⟨(by (try simp only [pre_X14_node_t, Ks4]); (all_goals (repeat' (first | with_reducible intro _ | with_reducible apply And.intro))); all_goals (first | assumption | trivial | omega | (have zz_ := fz_z (by assumption); omega) | (split <;> omega) | grind (splits := 20) [RG.tr0])), ?_⟩
  intro v20 s20 hv20 Ws20 e20_0 e20_1 e20_2 e20_3 e20_4 q20
  unfold rng at hv20
  unfold post_X14_node_t at q20
  obtain ⟨q20_1, q20_2, q20_3, q20_4, q20_5, q20_6, q20_7, q20_8, q20_9, q20_10⟩ := q20
  (try simp only [Ks4] at q20_1 q20_2 q20_3 q20_4 q20_5 q20_6 q20_7 q20_8 q20_9 q20_10 e20_0 e20_1 e20_2 e20_3 e20_4)
  have Ks20 : rR s20 7 = rR σ 7 := by first | assumption | ((try simp only [rR_sF, rR_sA, rR_sT, rR_sL] at e20_0 e20_1 e20_2 e20_3 e20_4); omega)
  exact (by (try simp only [post_X14_keepString_t, Ks20]); (all_goals (repeat' (first | with_reducible intro _ | with_reducible apply And.intro))); all_goals (first | assumption | trivial | omega | (have zz_ := fz_z (by assumption); omega) | (split <;> omega) | grind (splits := 20) [RG.tr0]))
theorem wX14_keepString_t (l : Launch) (G : zG) (κ : Nat → Nat) (σ : rS) (p1 n1 : Nat) (x2 : Int) (x3 : Int) (x4 : Int) (gg : Nat) (hwf : rWF σ) (ha1 : rAr 3 n1 p1) (hx2 : rng x2) (hx3 : rng x3) (hx4 : rng x4) (Q : Int → rS → Prop) (h : VC_X14_keepString_t σ p1 n1 x2 x3 x4 gg Q) : rMi l G κ yX14_keepString cX14_keepString 6 .int 2 25 [.ref (κ 0), .ref (κ p1), iv x2, iv x3, iv x4] σ (fun x s => rKeep 0x3000000 0x280 0 0x17f 0 σ s ∧ Q x s) := by
  refine zMi.intro (by decide +kernel) (Nat.le_of_ble_eq_true rfl) (fun X hC hR => ?_)
  obtain ⟨g0, h⟩ := h
  refine z_aload_n hC (pc := 0) 0 dX14_keepString_0 rfl rfl ?_
  refine z_aload_n hC (pc := 1) 1 dX14_keepString_1 rfl rfl ?_
  refine z_iload_n hC (pc := 2) 2 dX14_keepString_2 rfl rfl ?_
  refine z_iload_n hC (pc := 3) 3 dX14_keepString_3 rfl rfl ?_
  obtain ⟨p10, h⟩ := h
  refine y_callVv hC (pc := 4) (As := [.ref (κ p1), iv x2, iv x3]) (kX14_keep l G κ σ p1 n1 x2 x3 hwf ha1 hx2 hx3 p10) dmX14_keep zf14 rOb_0 dX14_keepString_4 zw3218 rfl rfl (Nat.le_of_ble_eq_true rfl) (Nat.le_of_ble_eq_true rfl) (Nat.le_of_ble_eq_true rfl) (Nat.le_of_ble_eq_true rfl) (Nat.le_of_ble_eq_true rfl) (kk := fun s4 Ws4 qs4 => ?_)
  have h := h s4 Ws4 (PNp.keep qs4.1 rfl rfl rfl rfl rfl) (qs4.1.R rfl) (qs4.1.F rfl) (qs4.1.FG g0 rfl) (RG.keep (c0 := 0) qs4.1 rfl rfl rfl rfl rfl rfl rfl rfl rfl rfl rfl rfl rfl rfl rfl rfl rfl rfl) qs4.2
  refine z_aload_n hC (pc := 7) 0 dX14_keepString_7 rfl rfl ?_
  refine z_bipush hC (pc := 8) (v := Int32.ofInt 30) dX14_keepString_8 (by decide) ?_
  refine z_aload_n hC (pc := 10) 0 dX14_keepString_10 rfl rfl ?_
  refine y_get hC (pc := 11) zf14 rOb_0 24 (v := iv (rF s4 0 24)) dX14_keepString_11 zw2491 (rv_i (Or.inl rfl) rfl) (kk := ?_)
  have h := h (Ws4.f _ _)
  refine z_aload_n hC (pc := 14) 0 dX14_keepString_14 rfl rfl ?_
  refine y_get hC (pc := 15) zf14 rOb_0 25 (v := iv (rF s4 0 25)) dX14_keepString_15 zw2492 (rv_i (Or.inl rfl) rfl) (kk := ?_)
  have h := h (Ws4.f _ _)
  refine z_iload hC (pc := 18) 4 dX14_keepString_18 rfl ?_
  obtain ⟨p11, h⟩ := h
  refine y_callVi hC (pc := 20) (As := [iv 30, iv (rF s4 0 24), iv (rF s4 0 25), iv x4]) (kX14_node_t l G κ s4 30 (rF s4 0 24) (rF s4 0 25) x4 gg Ws4 (r_lit rfl) (Ws4.f _ _) (Ws4.f _ _) hx4 p11) dmX14_node zf14 rOb_0 dX14_keepString_20 zw3170 rfl rfl (Nat.le_of_ble_eq_true rfl) (Nat.le_of_ble_eq_true rfl) (Nat.le_of_ble_eq_true rfl) (Nat.le_of_ble_eq_true rfl) (Nat.le_of_ble_eq_true rfl) (kk := fun v20 s20 hv20 Ws20 qs20 => ?_)
  have h := h v20 s20 hv20 Ws20 (qs20.1.R rfl) (qs20.1.F rfl) (qs20.1.F rfl) (qs20.1.F rfl) (qs20.1.FG g0 rfl) qs20.2
  refine z_istore hC (pc := 23) (lv' := [(5, iv v20), (0, .ref (κ 0)), (1, .ref (κ p1)), (2, iv x2), (3, iv x3), (4, iv x4)]) dX14_keepString_23 (by decide) rfl ?_
  refine z_iload hC (pc := 25) 0 dX14_keepString_25 rfl ?_
  exact y_reti hR dX14_keepString_27 rfl hv20 Ws20 (Nat.le_of_ble_eq_true rfl) (Nat.le_of_ble_eq_true rfl) ⟨(rKeep.tr (rKeep.tr rKeep.rf qs4.1 rfl rfl rfl rfl rfl) qs20.1 rfl rfl rfl rfl rfl), h⟩
theorem kX14_keepString_t (l : Launch) (G : zG) (κ : Nat → Nat) (σ : rS) (p1 n1 : Nat) (x2 : Int) (x3 : Int) (x4 : Int) (gg : Nat) (hwf : rWF σ) (ha1 : rAr 3 n1 p1) (hx2 : rng x2) (hx3 : rng x3) (hx4 : rng x4) (hp : pre_X14_keepString_t σ p1 n1 x2 x3 x4 gg) : rMi l G κ yX14_keepString cX14_keepString 6 .int 2 25 [.ref (κ 0), .ref (κ p1), iv x2, iv x3, iv x4] σ (fun x s => rKeep 0x3000000 0x280 0 0x17f 0 σ s ∧ post_X14_keepString_t σ p1 n1 x2 x3 x4 gg x s) := wX14_keepString_t l G κ σ p1 n1 x2 x3 x4 gg hwf ha1 hx2 hx3 hx4 (post_X14_keepString_t σ p1 n1 x2 x3 x4 gg) (vX14_keepString_t σ p1 n1 x2 x3 x4 gg hwf ha1 hx2 hx3 hx4 hp) 
