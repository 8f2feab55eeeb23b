theorem WE.mk {b : Int → Int} {n k k' : Int} (h1 : k ≤ k') (h2 : k < n) (h3 : LTp (b k)) (h4 : WB b k k') (h5 : k' ≤ n ∨ k' = k) (h6 : k' < n → ¬ LTp (b k') ∧ ¬ (48 ≤ b k' ∧ b k' ≤ 57)) : WE b n k k' := by
  have hx : k < k' := by
    by_cases q : k = k'
    · exfalso
      rw [← q] at h6; exact (h6 h2).1 h3
    · omega
  exact ⟨h1, h5, fun _ => ⟨h2, h3⟩, fun _ _ => hx, fun _ => ⟨h4, fun h => by unfold WCp; exact fun o => o.elim (h6 h).1 (h6 h).2⟩⟩
def pre_X14_blanks_b (σ : rS)  : Prop := 0 ≤ (rF σ 0 29) ∧ (rF σ 0 29) ≤ 100000 ∧ (rF σ 0 28) ≤ 4001
def post_X14_blanks_b (σ : rS)  (σ' : rS) : Prop := (rF σ 0 29) ≤ (rF σ' 0 29) ∧ ((rF σ' 0 29) ≤ (rF σ 0 28) ∨ (rF σ' 0 29) = (rF σ 0 29)) ∧ BE (rA σ 1026) (rF σ 0 28) (rF σ 0 29) (rF σ' 0 29)
def inv_X14_blanks_b_0 (σ : rS)   (s : rS)  : Prop := (rF σ 0 29) ≤ (rF s 0 29) ∧ ((rF s 0 29) ≤ (rF σ 0 28) ∨ (rF s 0 29) = (rF σ 0 29)) ∧ BB (rA σ 1026) (rF σ 0 29) (rF s 0 29)
def mu_X14_blanks_b_0 (σ : rS)  (s : rS)  : Nat := (1 + (4001 - (rF s 0 29)).toNat)
def VC_X14_blanks_b (σ : rS) (Q : rS → Prop) : Prop := (inv_X14_blanks_b_0 σ σ)
def VC_X14_blanks_b_0 (σ : rS) (Q : rS → Prop) : Prop := ∀ (s0 : rS), rWF s0 → rF s0 0 28 = rF σ 0 28 → (∀ i, rA s0 1026 i = rA σ 1026 i) → inv_X14_blanks_b_0 σ s0 → ((rng (rF s0 0 29) → (rng (rF s0 0 28) → (((rF s0 0 28) ≤ (rF s0 0 29) → Q s0) ∧ (¬ (rF s0 0 28) ≤ (rF s0 0 29) → (0 ≤ (rF s0 0 29) ∧ (rF s0 0 29) < 4001) ∧ (rng (rA s0 1026 (rF s0 0 29)) → pre_X14_isBlank s0 (rA s0 1026 (rF s0 0 29)) ∧ (∀ (v20 : Int), rng v20 → post_X14_isBlank s0 (rA s0 1026 (rF s0 0 29)) v20 → ((v20 = 0 → Q s0) ∧ (¬ v20 = 0 → rng ((rF s0 0 29) + 1) ∧ (inv_X14_blanks_b_0 σ (sF s0 0 29 ((rF s0 0 29) + 1)) ∧ (mu_X14_blanks_b_0 σ (sF s0 0 29 ((rF s0 0 29) + 1)) ) < (mu_X14_blanks_b_0 σ s0 )))))))))))
def VC_X14_blanks_b_0m (σ : rS) : Prop := ∀ (s0 : rS), rWF s0 → rF s0 0 28 = rF σ 0 28 → (∀ i, rA s0 1026 i = rA σ 1026 i) → inv_X14_blanks_b_0 σ s0 → 0 < (mu_X14_blanks_b_0 σ s0 )
set_option maxHeartbeats 20000000 in
theorem vX14_blanks_b (σ : rS) (hwf : rWF σ) (hp : pre_X14_blanks_b σ ) : VC_X14_blanks_b σ (post_X14_blanks_b σ ) := by
  unfold pre_X14_blanks_b at hp
  obtain ⟨hp_1, hp_2, hp_3⟩ := hp
  unfold VC_X14_blanks_b
  exact (by (try simp only [inv_X14_blanks_b_0]); (all_goals (repeat' (first | with_reducible intro _ | with_reducible apply And.intro))); all_goals (first | assumption | trivial | omega | (have zz_ := fz_z (by assumption); omega) | (split <;> omega) | (exact BB.rf) | (exact BB.s (by assumption) (by unfold BLp; rw [← (show ∀ i, rA s0 1026 i = rA σ 1026 i by assumption) (rF s0 0 29)]; omega)) | (exact ⟨by omega, by omega, by assumption, fun h_ => by unfold BLp; rw [← (show ∀ i, rA s0 1026 i = rA σ 1026 i by assumption) (rF s0 0 29)]; omega⟩) | grind (splits := 20)))
set_option maxHeartbeats 20000000 in
theorem vX14_blanks_b_0 (σ : rS) (hwf : rWF σ) (hp : pre_X14_blanks_b σ ) : VC_X14_blanks_b_0 σ (post_X14_blanks_b σ ) := by
  unfold pre_X14_blanks_b at hp
  obtain ⟨hp_1, hp_2, hp_3⟩ := hp
  unfold VC_X14_blanks_b_0
  intro s0 Ws0 e0_0 e0_1 I0
  unfold inv_X14_blanks_b_0 at I0
  obtain ⟨I0_1, I0_2, I0_3⟩ := I0
  intro hr_; unfold rng at hr_
  intro hr_; unfold rng at hr_
  refine ⟨fun c8 => ?_, fun c8 => ?_⟩
  · exact (by (try simp only [post_X14_blanks_b]); (all_goals (repeat' (first | with_reducible intro _ | with_reducible apply And.intro))); all_goals (first | assumption | trivial | omega | (have zz_ := fz_z (by assumption); omega) | (split <;> omega) | (exact BB.rf) | (exact BB.s (by assumption) (by unfold BLp; rw [← (show ∀ i, rA s0 1026 i = rA σ 1026 i by assumption) (rF s0 0 29)]; omega)) | (exact ⟨by omega, by omega, by assumption, fun h_ => by unfold BLp; rw [← (show ∀ i, rA s0 1026 i = rA σ 1026 i by assumption) (rF s0 0 29)]; omega⟩) | grind (splits := 20)))
  · refine ⟨(by (all_goals (repeat' (first | with_reducible intro _ | with_reducible apply And.intro))); all_goals (first | assumption | trivial | omega | (have zz_ := fz_z (by assumption); omega) | (split <;> omega) | (exact BB.rf) | (exact BB.s (by assumption) (by unfold BLp; rw [← (show ∀ i, rA s0 1026 i = rA σ 1026 i by assumption) (rF s0 0 29)]; omega)) | (exact ⟨by omega, by omega, by assumption, fun h_ => by unfold BLp; rw [← (show ∀ i, rA s0 1026 i = rA σ 1026 i by assumption) (rF s0 0 29)]; omega⟩) | grind (splits := 20))), ?_⟩
    intro hr_; unfold rng at hr_
    refine ⟨(by (try simp only [pre_X14_isBlank]); (all_goals (repeat' (first | with_reducible intro _ | with_reducible apply And.intro))); all_goals (first | assumption | trivial | omega | (have zz_ := fz_z (by assumption); omega) | (split <;> omega) | (exact BB.rf) | (exact BB.s (by assumption) (by unfold BLp; rw [← (show ∀ i, rA s0 1026 i = rA σ 1026 i by assumption) (rF s0 0 29)]; omega)) | (exact ⟨by omega, by omega, by assumption, fun h_ => by unfold BLp; rw [← (show ∀ i, rA s0 1026 i = rA σ 1026 i by assumption) (rF s0 0 29)]; omega⟩) | grind (splits := 20))), ?_⟩
    intro v20 hv20 q20
    unfold rng at hv20
    unfold post_X14_isBlank at q20
    obtain ⟨q20_1, q20_2⟩ := q20
    refine ⟨fun c23 => ?_, fun c23 => ?_⟩
    · exact (by (try simp only [post_X14_blanks_b]); (all_goals (repeat' (first | with_reducible intro _ | with_reducible apply And.intro))); all_goals (first | assumption | trivial | omega | (have zz_ := fz_z (by assumption); omega) | (split <;> omega) | (exact BB.rf) | (exact BB.s (by assumption) (by unfold BLp; rw [← (show ∀ i, rA s0 1026 i = rA σ 1026 i by assumption) (rF s0 0 29)]; omega)) | (exact ⟨by omega, by omega, by assumption, fun h_ => by unfold BLp; rw [← (show ∀ i, rA s0 1026 i = rA σ 1026 i by assumption) (rF s0 0 29)]; omega⟩) | grind (splits := 20)))
    · refine ⟨(by (try simp only [rng]); (all_goals (repeat' (first | with_reducible intro _ | with_reducible apply And.intro))); all_goals (first | assumption | trivial | omega | (have zz_ := fz_z (by assumption); omega) | (split <;> omega) | (exact BB.rf) | (exact BB.s (by assumption) (by unfold BLp; rw [← (show ∀ i, rA s0 1026 i = rA σ 1026 i by assumption) (rF s0 0 29)]; omega)) | (exact ⟨by omega, by omega, by assumption, fun h_ => by unfold BLp; rw [← (show ∀ i, rA s0 1026 i = rA σ 1026 i by assumption) (rF s0 0 29)]; omega⟩) | grind (splits := 20))), ?_⟩
      exact (by (try simp only [inv_X14_blanks_b_0, mu_X14_blanks_b_0, mu_X14_blanks_b_0, reduceIte, and_true, true_and, and_false, false_and, and_self, Nat.reduceEqDiff, fz_sF29, rF_sF, rA_sF, rR_sF, tr_sF, rNMp_sF, PNp_sF, GS_F29, OP_F29, NR_F29, LI_F29, RG_l29, RG_r29, TPRp_sF29, WNp_sF29, VMp_sF29, KYp_sF29, PPp_sF29, WFp_sF29, CCp_sF29]); (all_goals (repeat' (first | with_reducible intro _ | with_reducible apply And.intro))); all_goals (first | assumption | trivial | omega | (have zz_ := fz_z (by assumption); omega) | (split <;> omega) | (exact BB.rf) | (exact BB.s (by assumption) (by unfold BLp; rw [← (show ∀ i, rA s0 1026 i = rA σ 1026 i by assumption) (rF s0 0 29)]; omega)) | (exact ⟨by omega, by omega, by assumption, fun h_ => by unfold BLp; rw [← (show ∀ i, rA s0 1026 i = rA σ 1026 i by assumption) (rF s0 0 29)]; omega⟩) | grind (splits := 20)))
set_option maxHeartbeats 20000000 in
theorem vX14_blanks_b_0m (σ : rS) (hwf : rWF σ) (hp : pre_X14_blanks_b σ ) : VC_X14_blanks_b_0m σ := by
  unfold pre_X14_blanks_b at hp
  obtain ⟨hp_1, hp_2, hp_3⟩ := hp
  unfold VC_X14_blanks_b_0m
  (try simp only [inv_X14_blanks_b_0, mu_X14_blanks_b_0]); (all_goals (repeat' (first | with_reducible intro _ | with_reducible apply And.intro))); all_goals (first | assumption | omega | grind (splits := 20))
theorem wX14_blanks_b (l : Launch) (G : zG) (κ : Nat → Nat) (σ : rS) (hwf : rWF σ) (Q : rS → Prop) (h : VC_X14_blanks_b σ Q) (h_0 : VC_X14_blanks_b_0 σ Q) (h_0m : VC_X14_blanks_b_0m σ ) : rMv l G κ yX14_blanks cX14_blanks 1 2 20 [.ref (κ 0)] σ (fun s => rKeep 0x20000000 0 0 0 0 σ s ∧ Q s) := by
  refine zMv.intro (by decide +kernel) (Nat.le_of_ble_eq_true rfl) (fun X hC hR => ?_)
  have j0 : ∀ (d0 : Nat), ∀ (s0 : rS) , rWF s0 → rKeep 0x20000000 0 0 0 0 σ s0 → inv_X14_blanks_b_0 σ s0 → (mu_X14_blanks_b_0 σ  s0 ) ≤ d0 → zS X G 1 (rW G κ s0) [(0, .ref (κ 0))] 0 0 0 [] := by
    intro d0
    induction d0 with
    | zero =>
      intro s0 Ws0 kJ hI hmu
      exact absurd hmu (by have := h_0m  s0  Ws0  (kJ.F rfl) (fun i => kJ.A (f := 26) (by decide) rfl) hI; omega)
    | succ d0 ih0 =>
      intro s0 Ws0 kJ hI hmu0
      have h := h_0  s0  Ws0  (kJ.F rfl) (fun i => kJ.A (f := 26) (by decide) rfl) hI
      refine z_aload_n hC (pc := 0) 0 dX14_blanks_0 rfl rfl ?_
      refine y_get hC (pc := 1) zf14 rOb_0 29 (v := iv (rF s0 0 29)) dX14_blanks_1 zw2496 (rv_i (Or.inl rfl) rfl) (kk := ?_)
      have h := h (Ws0.f _ _)
      refine z_aload_n hC (pc := 4) 0 dX14_blanks_4 rfl rfl ?_
      refine y_get hC (pc := 5) zf14 rOb_0 28 (v := iv (rF s0 0 28)) dX14_blanks_5 zw2495 (rv_i (Or.inl rfl) rfl) (kk := ?_)
      have h := h (Ws0.f _ _)
      obtain ⟨hT, hF⟩ := h
      refine y_icmp_ge hC (pc := 8) 39 (Ws0.f _ _) (Ws0.f _ _) dX14_blanks_8 (by decide) (fun c => ?_) (fun c => ?_)
      · have h := hT c
        exact y_retv hR dX14_blanks_39 Ws0 (Nat.le_of_ble_eq_true rfl) (Nat.le_of_ble_eq_true rfl) ⟨(rKeep.tr rKeep.rf kJ rfl rfl rfl rfl rfl), h⟩
      · have h := hF c
        refine z_aload_n hC (pc := 11) 0 dX14_blanks_11 rfl rfl ?_
        refine y_get hC (pc := 12) zf14 rOb_0 26 (v := .ref (κ 1026)) dX14_blanks_12 zw2493 (rv_c rfl) (kk := ?_)
        refine z_aload_n hC (pc := 15) 0 dX14_blanks_15 rfl rfl ?_
        refine y_get hC (pc := 16) zf14 rOb_0 29 (v := iv (rF s0 0 29)) dX14_blanks_16 zw2496 (rv_i (Or.inl rfl) rfl) (kk := ?_)
        obtain ⟨b10, h⟩ := h
        refine y_bald hC (pc := 19) (rAr_m rfl) dX14_blanks_19 b10 (v := (rA s0 1026 (rF s0 0 29))) rfl (kk := ?_)
        have h := h (Ws0.a _ _)
        obtain ⟨p11, h⟩ := h
        refine y_callSi hC (pc := 20) (As := [iv (rA s0 1026 (rF s0 0 29))]) (kX14_isBlank l G κ s0 (rA s0 1026 (rF s0 0 29)) Ws0 (Ws0.a _ _) p11) dmX14_isBlank dX14_blanks_20 zw2997 rfl rfl (Nat.le_of_ble_eq_true rfl) (Nat.le_of_ble_eq_true rfl) (Nat.le_of_ble_eq_true rfl) (Nat.le_of_ble_eq_true rfl) (Nat.le_of_ble_eq_true rfl) (kk := fun v20 s20 hv20 Ws20 qs20 => ?_)
        obtain ⟨es20, qs20⟩ := qs20
        have es20 := es20.symm
        subst es20
        have h := h v20 hv20 qs20
        obtain ⟨hT, hF⟩ := h
        refine y_if_eq hC (pc := 23) 39 hv20 dX14_blanks_23 (by decide) (fun c => ?_) (fun c => ?_)
        · have h := hT c
          exact y_retv hR dX14_blanks_39 Ws0 (Nat.le_of_ble_eq_true rfl) (Nat.le_of_ble_eq_true rfl) ⟨(rKeep.tr rKeep.rf kJ rfl rfl rfl rfl rfl), h⟩
        · have h := hF c
          refine z_aload_n hC (pc := 26) 0 dX14_blanks_26 rfl rfl ?_
          refine z_dup hC (pc := 27) dX14_blanks_27 rfl ?_
          refine y_get hC (pc := 28) zf14 rOb_0 29 (v := iv (rF s0 0 29)) dX14_blanks_28 zw2496 (rv_i (Or.inl rfl) rfl) (kk := ?_)
          refine z_iconst hC (pc := 31) (v := Int32.ofInt 1) dX14_blanks_31 (by decide) ?_
          refine y_iadd hC (pc := 32) (v := ((rF s0 0 29) + 1)) dX14_blanks_32 rfl ?_
          obtain ⟨r12, h⟩ := h
          refine y_putI hC (pc := 33) zf14 rOb_0 29 (x := ((rF s0 0 29) + 1)) dX14_blanks_33 zw2496 (Or.inl rfl) rfl rfl (kk := ?_)
          have W13 := Ws0.sF (q := 0) (f := 29) (x := ((rF s0 0 29) + 1)) r12
          refine z_goto hC (pc := 36) 0 dX14_blanks_36 (by decide) ?_
          obtain ⟨hI, hm⟩ := h
          exact ih0 (sF s0 0 29 ((rF s0 0 29) + 1))  W13  (rKeep.tr (rKeep.tr rKeep.rf kJ rfl rfl rfl rfl rfl) (rKeep.sF0 (f := 29)) rfl rfl rfl rfl rfl) hI (by omega)
  exact j0 _ σ  hwf  rKeep.rf h (Nat.le_refl _)
theorem kX14_blanks_b (l : Launch) (G : zG) (κ : Nat → Nat) (σ : rS) (hwf : rWF σ) (hp : pre_X14_blanks_b σ ) : rMv l G κ yX14_blanks cX14_blanks 1 2 20 [.ref (κ 0)] σ (fun s => rKeep 0x20000000 0 0 0 0 σ s ∧ post_X14_blanks_b σ s) := wX14_blanks_b l G κ σ hwf (post_X14_blanks_b σ ) (vX14_blanks_b σ hwf hp) (vX14_blanks_b_0 σ hwf hp) (vX14_blanks_b_0m σ hwf hp)
def pre_X14_wordEnd_w (σ : rS) (p0 n0 : Nat) (x1 : Int) (x2 : Int) : Prop := 0 ≤ x2 ∧ x1 ≤ n0 ∧ x1 ≤ 100000
def post_X14_wordEnd_w (σ : rS) (p0 n0 : Nat) (x1 : Int) (x2 : Int) (r : Int) : Prop := x2 ≤ r ∧ (r ≤ x1 ∨ r = x2) ∧ WE (rA σ p0) x1 x2 r
def inv_X14_wordEnd_w_16 (σ : rS) (p0 n0 : Nat) (x1 : Int) (x2 : Int)  (s : rS) (k : Int) : Prop := x2 ≤ k ∧ (k ≤ x1 ∨ k = x2) ∧ x2 < x1 ∧ LTp (rA σ p0 x2) ∧ WB (rA σ p0) x2 k
def mu_X14_wordEnd_w_16 (σ : rS) (p0 n0 : Nat) (x1 : Int) (x2 : Int) (s : rS) (k : Int) : Nat := (1 + (x1 - k).toNat)
def VC_X14_wordEnd_w (σ : rS) (p0 n0 : Nat) (x1 : Int) (x2 : Int) (Q : Int → Prop) : Prop := ((x1 ≤ x2 → Q x2) ∧ (¬ x1 ≤ x2 → (0 ≤ x2 ∧ x2 < n0) ∧ (rng (rA σ p0 x2) → pre_X14_isLetter σ (rA σ p0 x2) ∧ (∀ (v10 : Int), rng v10 → post_X14_isLetter σ (rA σ p0 x2) v10 → ((v10 = 0 → Q x2) ∧ (¬ v10 = 0 → (inv_X14_wordEnd_w_16 σ p0 n0 x1 x2 σ x2)))))))
def VC_X14_wordEnd_w_16 (σ : rS) (p0 n0 : Nat) (x1 : Int) (x2 : Int) (Q : Int → Prop) : Prop := ∀ (y16_3 : Int), rng y16_3 → inv_X14_wordEnd_w_16 σ p0 n0 x1 x2 σ y16_3 → (((x1 ≤ y16_3 → Q y16_3) ∧ (¬ x1 ≤ y16_3 → (0 ≤ y16_3 ∧ y16_3 < n0) ∧ (rng (rA σ p0 y16_3) → pre_X14_isLetter σ (rA σ p0 y16_3) ∧ (∀ (v24 : Int), rng v24 → post_X14_isLetter σ (rA σ p0 y16_3) v24 → ((¬ v24 = 0 → rng (y16_3 + 1) ∧ (inv_X14_wordEnd_w_16 σ p0 n0 x1 x2 σ (y16_3 + 1) ∧ (mu_X14_wordEnd_w_16 σ p0 n0 x1 x2 σ (y16_3 + 1)) < (mu_X14_wordEnd_w_16 σ p0 n0 x1 x2 σ y16_3))) ∧ (v24 = 0 → (0 ≤ y16_3 ∧ y16_3 < n0) ∧ pre_X14_isDigit σ (rA σ p0 y16_3) ∧ (∀ (v33 : Int), rng v33 → post_X14_isDigit σ (rA σ p0 y16_3) v33 → ((v33 = 0 → Q y16_3) ∧ (¬ v33 = 0 → rng (y16_3 + 1) ∧ (inv_X14_wordEnd_w_16 σ p0 n0 x1 x2 σ (y16_3 + 1) ∧ (mu_X14_wordEnd_w_16 σ p0 n0 x1 x2 σ (y16_3 + 1)) < (mu_X14_wordEnd_w_16 σ p0 n0 x1 x2 σ y16_3))))))))))))
def VC_X14_wordEnd_w_16m (σ : rS) (p0 n0 : Nat) (x1 : Int) (x2 : Int) : Prop := ∀ (y16_3 : Int), rng y16_3 → inv_X14_wordEnd_w_16 σ p0 n0 x1 x2 σ y16_3 → 0 < (mu_X14_wordEnd_w_16 σ p0 n0 x1 x2 σ y16_3)
set_option maxHeartbeats 20000000 in
theorem vX14_wordEnd_w (σ : rS) (p0 n0 : Nat) (x1 : Int) (x2 : Int) (hwf : rWF σ) (ha0 : rAr 3 n0 p0) (hx1 : rng x1) (hx2 : rng x2) (hp : pre_X14_wordEnd_w σ p0 n0 x1 x2) : VC_X14_wordEnd_w σ p0 n0 x1 x2 (post_X14_wordEnd_w σ p0 n0 x1 x2) := by
  unfold pre_X14_wordEnd_w at hp
  obtain ⟨hp_1, hp_2, hp_3⟩ := hp
  unfold rng at hx1 hx2
  unfold VC_X14_wordEnd_w
  refine ⟨fun c4 => ?_, fun c4 => ?_⟩
  · exact (by (try simp only [post_X14_wordEnd_w]); (all_goals (repeat' (first | with_reducible intro _ | with_reducible apply And.intro))); all_goals (first | assumption | trivial | omega | (have zz_ := fz_z (by assumption); omega) | (split <;> omega) | (unfold LTp; omega) | (exact WB.rf) | (exact WB.s (by assumption) (by unfold WCp LTp; omega)) | (exact ⟨Int.le_refl _, Or.inr rfl, fun h_ => absurd h_ (by omega), fun h_ l_ => absurd l_ (by unfold LTp; omega), fun h_ => absurd h_ (by omega)⟩) | (exact WE.mk (by omega) (by omega) (by assumption) (by assumption) (by omega) (fun h_ => ⟨by unfold LTp; omega, by omega⟩)) | grind (splits := 20)))
  · refine ⟨(by (all_goals (repeat' (first | with_reducible intro _ | with_reducible apply And.intro))); all_goals (first | assumption | trivial | omega | (have zz_ := fz_z (by assumption); omega) | (split <;> omega) | (unfold LTp; omega) | (exact WB.rf) | (exact WB.s (by assumption) (by unfold WCp LTp; omega)) | (exact ⟨Int.le_refl _, Or.inr rfl, fun h_ => absurd h_ (by omega), fun h_ l_ => absurd l_ (by unfold LTp; omega), fun h_ => absurd h_ (by omega)⟩) | (exact WE.mk (by omega) (by omega) (by assumption) (by assumption) (by omega) (fun h_ => ⟨by unfold LTp; omega, by omega⟩)) | grind (splits := 20))), ?_⟩
    intro hr_; unfold rng at hr_
    refine ⟨(by (try simp only [pre_X14_isLetter]); (all_goals (repeat' (first | with_reducible intro _ | with_reducible apply And.intro))); all_goals (first | assumption | trivial | omega | (have zz_ := fz_z (by assumption); omega) | (split <;> omega) | (unfold LTp; omega) | (exact WB.rf) | (exact WB.s (by assumption) (by unfold WCp LTp; omega)) | (exact ⟨Int.le_refl _, Or.inr rfl, fun h_ => absurd h_ (by omega), fun h_ l_ => absurd l_ (by unfold LTp; omega), fun h_ => absurd h_ (by omega)⟩) | (exact WE.mk (by omega) (by omega) (by assumption) (by assumption) (by omega) (fun h_ => ⟨by unfold LTp; omega, by omega⟩)) | grind (splits := 20))), ?_⟩
    intro v10 hv10 q10
    unfold rng at hv10
    unfold post_X14_isLetter at q10
    obtain ⟨q10_1, q10_2⟩ := q10
    refine ⟨fun c13 => ?_, fun c13 => ?_⟩
    · exact (by (try simp only [post_X14_wordEnd_w]); (all_goals (repeat' (first | with_reducible intro _ | with_reducible apply And.intro))); all_goals (first | assumption | trivial | omega | (have zz_ := fz_z (by assumption); omega) | (split <;> omega) | (unfold LTp; omega) | (exact WB.rf) | (exact WB.s (by assumption) (by unfold WCp LTp; omega)) | (exact ⟨Int.le_refl _, Or.inr rfl, fun h_ => absurd h_ (by omega), fun h_ l_ => absurd l_ (by unfold LTp; omega), fun h_ => absurd h_ (by omega)⟩) | (exact WE.mk (by omega) (by omega) (by assumption) (by assumption) (by omega) (fun h_ => ⟨by unfold LTp; omega, by omega⟩)) | grind (splits := 20)))
    · exact (by (try simp only [inv_X14_wordEnd_w_16]); (all_goals (repeat' (first | with_reducible intro _ | with_reducible apply And.intro))); all_goals (first | assumption | trivial | omega | (have zz_ := fz_z (by assumption); omega) | (split <;> omega) | (unfold LTp; omega) | (exact WB.rf) | (exact WB.s (by assumption) (by unfold WCp LTp; omega)) | (exact ⟨Int.le_refl _, Or.inr rfl, fun h_ => absurd h_ (by omega), fun h_ l_ => absurd l_ (by unfold LTp; omega), fun h_ => absurd h_ (by omega)⟩) | (exact WE.mk (by omega) (by omega) (by assumption) (by assumption) (by omega) (fun h_ => ⟨by unfold LTp; omega, by omega⟩)) | grind (splits := 20)))
set_option maxHeartbeats 20000000 in
theorem vX14_wordEnd_w_16 (σ : rS) (p0 n0 : Nat) (x1 : Int) (x2 : Int) (hwf : rWF σ) (ha0 : rAr 3 n0 p0) (hx1 : rng x1) (hx2 : rng x2) (hp : pre_X14_wordEnd_w σ p0 n0 x1 x2) : VC_X14_wordEnd_w_16 σ p0 n0 x1 x2 (post_X14_wordEnd_w σ p0 n0 x1 x2) := by
  unfold pre_X14_wordEnd_w at hp
  obtain ⟨hp_1, hp_2, hp_3⟩ := hp
  unfold rng at hx1 hx2
  unfold VC_X14_wordEnd_w_16
  intro y16_3 hy16_3 I16
  unfold inv_X14_wordEnd_w_16 at I16
  obtain ⟨I16_1, I16_2, I16_3, I16_4, I16_5⟩ := I16
  refine ⟨fun c18 => ?_, fun c18 => ?_⟩
  · exact (by (try simp only [post_X14_wordEnd_w]); (all_goals (repeat' (first | with_reducible intro _ | with_reducible apply And.intro))); all_goals (first | assumption | trivial | omega | (have zz_ := fz_z (by assumption); omega) | (split <;> omega) | (unfold LTp; omega) | (exact WB.rf) | (exact WB.s (by assumption) (by unfold WCp LTp; omega)) | (exact ⟨Int.le_refl _, Or.inr rfl, fun h_ => absurd h_ (by omega), fun h_ l_ => absurd l_ (by unfold LTp; omega), fun h_ => absurd h_ (by omega)⟩) | (exact WE.mk (by omega) (by omega) (by assumption) (by assumption) (by omega) (fun h_ => ⟨by unfold LTp; omega, by omega⟩)) | grind (splits := 20)))
  · refine ⟨(by (all_goals (repeat' (first | with_reducible intro _ | with_reducible apply And.intro))); all_goals (first | assumption | trivial | omega | (have zz_ := fz_z (by assumption); omega) | (split <;> omega) | (unfold LTp; omega) | (exact WB.rf) | (exact WB.s (by assumption) (by unfold WCp LTp; omega)) | (exact ⟨Int.le_refl _, Or.inr rfl, fun h_ => absurd h_ (by omega), fun h_ l_ => absurd l_ (by unfold LTp; omega), fun h_ => absurd h_ (by omega)⟩) | (exact WE.mk (by omega) (by omega) (by assumption) (by assumption) (by omega) (fun h_ => ⟨by unfold LTp; omega, by omega⟩)) | grind (splits := 20))), ?_⟩
    intro hr_; unfold rng at hr_
    refine ⟨(by (try simp only [pre_X14_isLetter]); (all_goals (repeat' (first | with_reducible intro _ | with_reducible apply And.intro))); all_goals (first | assumption | trivial | omega | (have zz_ := fz_z (by assumption); omega) | (split <;> omega) | (unfold LTp; omega) | (exact WB.rf) | (exact WB.s (by assumption) (by unfold WCp LTp; omega)) | (exact ⟨Int.le_refl _, Or.inr rfl, fun h_ => absurd h_ (by omega), fun h_ l_ => absurd l_ (by unfold LTp; omega), fun h_ => absurd h_ (by omega)⟩) | (exact WE.mk (by omega) (by omega) (by assumption) (by assumption) (by omega) (fun h_ => ⟨by unfold LTp; omega, by omega⟩)) | grind (splits := 20))), ?_⟩
    intro v24 hv24 q24
    unfold rng at hv24
    unfold post_X14_isLetter at q24
    obtain ⟨q24_1, q24_2⟩ := q24
    refine ⟨fun c27 => ?_, fun c27 => ?_⟩
    · refine ⟨(by (try simp only [rng]); (all_goals (repeat' (first | with_reducible intro _ | with_reducible apply And.intro))); all_goals (first | assumption | trivial | omega | (have zz_ := fz_z (by assumption); omega) | (split <;> omega) | (unfold LTp; omega) | (exact WB.rf) | (exact WB.s (by assumption) (by unfold WCp LTp; omega)) | (exact ⟨Int.le_refl _, Or.inr rfl, fun h_ => absurd h_ (by omega), fun h_ l_ => absurd l_ (by unfold LTp; omega), fun h_ => absurd h_ (by omega)⟩) | (exact WE.mk (by omega) (by omega) (by assumption) (by assumption) (by omega) (fun h_ => ⟨by unfold LTp; omega, by omega⟩)) | grind (splits := 20))), ?_⟩
      exact (by (try simp only [inv_X14_wordEnd_w_16, mu_X14_wordEnd_w_16, mu_X14_wordEnd_w_16]); (all_goals (repeat' (first | with_reducible intro _ | with_reducible apply And.intro))); all_goals (first | assumption | trivial | omega | (have zz_ := fz_z (by assumption); omega) | (split <;> omega) | (unfold LTp; omega) | (exact WB.rf) | (exact WB.s (by assumption) (by unfold WCp LTp; omega)) | (exact ⟨Int.le_refl _, Or.inr rfl, fun h_ => absurd h_ (by omega), fun h_ l_ => absurd l_ (by unfold LTp; omega), fun h_ => absurd h_ (by omega)⟩) | (exact WE.mk (by omega) (by omega) (by assumption) (by assumption) (by omega) (fun h_ => ⟨by unfold LTp; omega, by omega⟩)) | grind (splits := 20)))
    · refine ⟨(by (all_goals (repeat' (first | with_reducible intro _ | with_reducible apply And.intro))); all_goals (first | assumption | trivial | omega | (have zz_ := fz_z (by assumption); omega) | (split <;> omega) | (unfold LTp; omega) | (exact WB.rf) | (exact WB.s (by assumption) (by unfold WCp LTp; omega)) | (exact ⟨Int.le_refl _, Or.inr rfl, fun h_ => absurd h_ (by omega), fun h_ l_ => absurd l_ (by unfold LTp; omega), fun h_ => absurd h_ (by omega)⟩) | (exact WE.mk (by omega) (by omega) (by assumption) (by assumption) (by omega) (fun h_ => ⟨by unfold LTp; omega, by omega⟩)) | grind (splits := 20))), ?_⟩
      refine ⟨(by (try simp only [pre_X14_isDigit]); (all_goals (repeat' (first | with_reducible intro _ | with_reducible apply And.intro))); all_goals (first | assumption | trivial | omega | (have zz_ := fz_z (by assumption); omega) | (split <;> omega) | (unfold LTp; omega) | (exact WB.rf) | (exact WB.s (by assumption) (by unfold WCp LTp; omega)) | (exact ⟨Int.le_refl _, Or.inr rfl, fun h_ => absurd h_ (by omega), fun h_ l_ => absurd l_ (by unfold LTp; omega), fun h_ => absurd h_ (by omega)⟩) | (exact WE.mk (by omega) (by omega) (by assumption) (by assumption) (by omega) (fun h_ => ⟨by unfold LTp; omega, by omega⟩)) | grind (splits := 20))), ?_⟩
      intro v33 hv33 q33
      unfold rng at hv33
      unfold post_X14_isDigit at q33
      obtain ⟨q33_1, q33_2⟩ := q33
      refine ⟨fun c36 => ?_, fun c36 => ?_⟩
      · exact (by (try simp only [post_X14_wordEnd_w]); (all_goals (repeat' (first | with_reducible intro _ | with_reducible apply And.intro))); all_goals (first | assumption | trivial | omega | (have zz_ := fz_z (by assumption); omega) | (split <;> omega) | (unfold LTp; omega) | (exact WB.rf) | (exact WB.s (by assumption) (by unfold WCp LTp; omega)) | (exact ⟨Int.le_refl _, Or.inr rfl, fun h_ => absurd h_ (by omega), fun h_ l_ => absurd l_ (by unfold LTp; omega), fun h_ => absurd h_ (by omega)⟩) | (exact WE.mk (by omega) (by omega) (by assumption) (by assumption) (by omega) (fun h_ => ⟨by unfold LTp; omega, by omega⟩)) | grind (splits := 20)))
      · refine ⟨(by (try simp only [rng]); (all_goals (repeat' (first | with_reducible intro _ | with_reducible apply And.intro))); all_goals (first | assumption | trivial | omega | (have zz_ := fz_z (by assumption); omega) | (split <;> omega) | (unfold LTp; omega) | (exact WB.rf) | (exact WB.s (by assumption) (by unfold WCp LTp; omega)) | (exact ⟨Int.le_refl _, Or.inr rfl, fun h_ => absurd h_ (by omega), fun h_ l_ => absurd l_ (by unfold LTp; omega), fun h_ => absurd h_ (by omega)⟩) | (exact WE.mk (by omega) (by omega) (by assumption) (by assumption) (by omega) (fun h_ => ⟨by unfold LTp; omega, by omega⟩)) | grind (splits := 20))), ?_⟩
        exact (by (try simp only [inv_X14_wordEnd_w_16, mu_X14_wordEnd_w_16, mu_X14_wordEnd_w_16]); (all_goals (repeat' (first | with_reducible intro _ | with_reducible apply And.intro))); all_goals (first | assumption | trivial | omega | (have zz_ := fz_z (by assumption); omega) | (split <;> omega) | (unfold LTp; omega) | (exact WB.rf) | (exact WB.s (by assumption) (by unfold WCp LTp; omega)) | (exact ⟨Int.le_refl _, Or.inr rfl, fun h_ => absurd h_ (by omega), fun h_ l_ => absurd l_ (by unfold LTp; omega), fun h_ => absurd h_ (by omega)⟩) | (exact WE.mk (by omega) (by omega) (by assumption) (by assumption) (by omega) (fun h_ => ⟨by unfold LTp; omega, by omega⟩)) | grind (splits := 20)))
set_option maxHeartbeats 20000000 in
theorem vX14_wordEnd_w_16m (σ : rS) (p0 n0 : Nat) (x1 : Int) (x2 : Int) (hwf : rWF σ) (ha0 : rAr 3 n0 p0) (hx1 : rng x1) (hx2 : rng x2) (hp : pre_X14_wordEnd_w σ p0 n0 x1 x2) : VC_X14_wordEnd_w_16m σ p0 n0 x1 x2 := by
  unfold pre_X14_wordEnd_w at hp
  obtain ⟨hp_1, hp_2, hp_3⟩ := hp
  unfold rng at hx1 hx2
  unfold VC_X14_wordEnd_w_16m
  (try simp only [inv_X14_wordEnd_w_16, mu_X14_wordEnd_w_16]); (all_goals (repeat' (first | with_reducible intro _ | with_reducible apply And.intro))); all_goals (first | assumption | omega | grind (splits := 20))
theorem wX14_wordEnd_w (l : Launch) (G : zG) (κ : Nat → Nat) (σ : rS) (p0 n0 : Nat) (x1 : Int) (x2 : Int) (hwf : rWF σ) (ha0 : rAr 3 n0 p0) (hx1 : rng x1) (hx2 : rng x2) (Q : Int → Prop) (h : VC_X14_wordEnd_w σ p0 n0 x1 x2 Q) (h_16 : VC_X14_wordEnd_w_16 σ p0 n0 x1 x2 Q) (h_16m : VC_X14_wordEnd_w_16m σ p0 n0 x1 x2) : rMi l G κ yX14_wordEnd cX14_wordEnd 4 .int 2 20 [.ref (κ p0), iv x1, iv x2] σ (fun x s => s = σ ∧ Q x) := by
  refine zMi.intro (by decide +kernel) (Nat.le_of_ble_eq_true rfl) (fun X hC hR => ?_)
  refine z_iload_n hC (pc := 0) 2 dX14_wordEnd_0 rfl rfl ?_
  refine z_istore_n hC (pc := 1) (lv' := [(3, iv x2), (0, .ref (κ p0)), (1, iv x1), (2, iv x2)]) dX14_wordEnd_1 rfl (by decide) rfl ?_
  refine z_iload_n hC (pc := 2) 0 dX14_wordEnd_2 rfl rfl ?_
  refine z_iload_n hC (pc := 3) 2 dX14_wordEnd_3 rfl rfl ?_
  obtain ⟨hT, hF⟩ := h
  refine y_icmp_ge hC (pc := 4) 45 hx2 hx1 dX14_wordEnd_4 (by decide) (fun c => ?_) (fun c => ?_)
  · have h := hT c
    refine z_iload_n hC (pc := 45) 0 dX14_wordEnd_45 rfl rfl ?_
    exact y_reti hR dX14_wordEnd_46 rfl hx2 hwf (Nat.le_of_ble_eq_true rfl) (Nat.le_of_ble_eq_true rfl) ⟨rfl, h⟩
  · have h := hF c
    refine z_aload_n hC (pc := 7) 1 dX14_wordEnd_7 rfl rfl ?_
    refine z_iload_n hC (pc := 8) 0 dX14_wordEnd_8 rfl rfl ?_
    obtain ⟨b10, h⟩ := h
    refine y_bald hC (pc := 9) ha0 dX14_wordEnd_9 b10 (v := (rA σ p0 x2)) rfl (kk := ?_)
    have h := h (hwf.a _ _)
    obtain ⟨p11, h⟩ := h
    refine y_callSi hC (pc := 10) (As := [iv (rA σ p0 x2)]) (kX14_isLetter l G κ σ (rA σ p0 x2) hwf (hwf.a _ _) p11) dmX14_isLetter dX14_wordEnd_10 zw3012 rfl rfl (Nat.le_of_ble_eq_true rfl) (Nat.le_of_ble_eq_true rfl) (Nat.le_of_ble_eq_true rfl) (Nat.le_of_ble_eq_true rfl) (Nat.le_of_ble_eq_true rfl) (kk := fun v10 s10 hv10 Ws10 qs10 => ?_)
    obtain ⟨es10, qs10⟩ := qs10
    have es10 := es10.symm
    subst es10
    have h := h v10 hv10 qs10
    have j16 : ∀ (d16 : Nat), ∀ (y16_3 : Int), rng y16_3 → inv_X14_wordEnd_w_16 σ p0 n0 x1 x2 σ y16_3 → (mu_X14_wordEnd_w_16 σ p0 n0 x1 x2 σ y16_3) ≤ d16 → zS X G 4 (rW G κ σ) [(0, .ref (κ p0)), (1, iv x1), (3, iv y16_3)] 0 0 16 [] := by
      intro d16
      induction d16 with
      | zero =>
        intro y16_3 hy16_3 hI hmu
        exact absurd hmu (by have := h_16m   y16_3  hy16_3  hI; omega)
      | succ d16 ih16 =>
        intro y16_3 hy16_3 hI hmu16
        have h := h_16   y16_3  hy16_3  hI
        refine z_iload_n hC (pc := 16) 2 dX14_wordEnd_16 rfl rfl ?_
        refine z_iload_n hC (pc := 17) 1 dX14_wordEnd_17 rfl rfl ?_
        obtain ⟨hT, hF⟩ := h
        refine y_icmp_ge hC (pc := 18) 45 hy16_3 hx1 dX14_wordEnd_18 (by decide) (fun c => ?_) (fun c => ?_)
        · have h := hT c
          refine z_iload_n hC (pc := 45) 2 dX14_wordEnd_45 rfl rfl ?_
          exact y_reti hR dX14_wordEnd_46 rfl hy16_3 hwf (Nat.le_of_ble_eq_true rfl) (Nat.le_of_ble_eq_true rfl) ⟨rfl, h⟩
        · have h := hF c
          refine z_aload_n hC (pc := 21) 0 dX14_wordEnd_21 rfl rfl ?_
          refine z_iload_n hC (pc := 22) 2 dX14_wordEnd_22 rfl rfl ?_
          obtain ⟨b12, h⟩ := h
          refine y_bald hC (pc := 23) ha0 dX14_wordEnd_23 b12 (v := (rA σ p0 y16_3)) rfl (kk := ?_)
          have h := h (hwf.a _ _)
          obtain ⟨p13, h⟩ := h
          refine y_callSi hC (pc := 24) (As := [iv (rA σ p0 y16_3)]) (kX14_isLetter l G κ σ (rA σ p0 y16_3) hwf (hwf.a _ _) p13) dmX14_isLetter dX14_wordEnd_24 zw3012 rfl rfl (Nat.le_of_ble_eq_true rfl) (Nat.le_of_ble_eq_true rfl) (Nat.le_of_ble_eq_true rfl) (Nat.le_of_ble_eq_true rfl) (Nat.le_of_ble_eq_true rfl) (kk := fun v24 s24 hv24 Ws24 qs24 => ?_)
          obtain ⟨es24, qs24⟩ := qs24
          have es24 := es24.symm
          subst es24
          have h := h v24 hv24 qs24
          obtain ⟨hT, hF⟩ := h
          refine y_if_ne hC (pc := 27) 39 hv24 dX14_wordEnd_27 (by decide) (fun c => ?_) (fun c => ?_)
          · have h := hT c
            refine y_iinc hC (pc := 39) (v := (y16_3 + 1)) (lv' := [(3, iv (y16_3 + 1)), (0, .ref (κ p0)), (1, iv x1)]) 2 dX14_wordEnd_39 rfl rfl (by decide) rfl ?_
            refine z_goto hC (pc := 42) 16 dX14_wordEnd_42 (by decide) ?_
            refine z_lvs [1, 2, 0] rfl ?_
            obtain ⟨r14, h⟩ := h
            obtain ⟨hI, hm⟩ := h
            exact ih16  (y16_3 + 1)  r14  hI (by omega)
          · have h := hF c
            refine z_aload_n hC (pc := 30) 0 dX14_wordEnd_30 rfl rfl ?_
            refine z_iload_n hC (pc := 31) 2 dX14_wordEnd_31 rfl rfl ?_
            obtain ⟨b15, h⟩ := h
            refine y_bald hC (pc := 32) ha0 dX14_wordEnd_32 b15 (v := (rA σ p0 y16_3)) rfl (kk := ?_)
            obtain ⟨p16, h⟩ := h
            refine y_callSi hC (pc := 33) (As := [iv (rA σ p0 y16_3)]) (kX14_isDigit l G κ σ (rA σ p0 y16_3) hwf (hwf.a _ _) p16) dmX14_isDigit dX14_wordEnd_33 zw3015 rfl rfl (Nat.le_of_ble_eq_true rfl) (Nat.le_of_ble_eq_true rfl) (Nat.le_of_ble_eq_true rfl) (Nat.le_of_ble_eq_true rfl) (Nat.le_of_ble_eq_true rfl) (kk := fun v33 s33 hv33 Ws33 qs33 => ?_)
            obtain ⟨es33, qs33⟩ := qs33
            have es33 := es33.symm
            subst es33
            have h := h v33 hv33 qs33
            obtain ⟨hT, hF⟩ := h
            refine y_if_eq hC (pc := 36) 45 hv33 dX14_wordEnd_36 (by decide) (fun c => ?_) (fun c => ?_)
            · have h := hT c
              refine z_iload_n hC (pc := 45) 2 dX14_wordEnd_45 rfl rfl ?_
              exact y_reti hR dX14_wordEnd_46 rfl hy16_3 hwf (Nat.le_of_ble_eq_true rfl) (Nat.le_of_ble_eq_true rfl) ⟨rfl, h⟩
            · have h := hF c
              refine y_iinc hC (pc := 39) (v := (y16_3 + 1)) (lv' := [(3, iv (y16_3 + 1)), (0, .ref (κ p0)), (1, iv x1)]) 2 dX14_wordEnd_39 rfl rfl (by decide) rfl ?_
              refine z_goto hC (pc := 42) 16 dX14_wordEnd_42 (by decide) ?_
              refine z_lvs [1, 2, 0] rfl ?_
              obtain ⟨r17, h⟩ := h
              obtain ⟨hI, hm⟩ := h
              exact ih16  (y16_3 + 1)  r17  hI (by omega)
    obtain ⟨hT, hF⟩ := h
    refine y_if_eq hC (pc := 13) 45 hv10 dX14_wordEnd_13 (by decide) (fun c => ?_) (fun c => ?_)
    · have h := hT c
      refine z_iload_n hC (pc := 45) 0 dX14_wordEnd_45 rfl rfl ?_
      exact y_reti hR dX14_wordEnd_46 rfl hx2 hwf (Nat.le_of_ble_eq_true rfl) (Nat.le_of_ble_eq_true rfl) ⟨rfl, h⟩
    · have h := hF c
      refine z_lvs [1, 2, 0] rfl ?_
      exact j16 _  x2  hx2  h (Nat.le_refl _)
theorem kX14_wordEnd_w (l : Launch) (G : zG) (κ : Nat → Nat) (σ : rS) (p0 n0 : Nat) (x1 : Int) (x2 : Int) (hwf : rWF σ) (ha0 : rAr 3 n0 p0) (hx1 : rng x1) (hx2 : rng x2) (hp : pre_X14_wordEnd_w σ p0 n0 x1 x2) : rMi l G κ yX14_wordEnd cX14_wordEnd 4 .int 2 20 [.ref (κ p0), iv x1, iv x2] σ (fun x s => s = σ ∧ post_X14_wordEnd_w σ p0 n0 x1 x2 x) := wX14_wordEnd_w l G κ σ p0 n0 x1 x2 hwf ha0 hx1 hx2 (post_X14_wordEnd_w σ p0 n0 x1 x2) (vX14_wordEnd_w σ p0 n0 x1 x2 hwf ha0 hx1 hx2 hp) (vX14_wordEnd_w_16 σ p0 n0 x1 x2 hwf ha0 hx1 hx2 hp) (vX14_wordEnd_w_16m σ p0 n0 x1 x2 hwf ha0 hx1 hx2 hp)
def pre_X14_bar_b (σ : rS)  : Prop := 0 ≤ (rF σ 0 29) ∧ (rF σ 0 29) ≤ (rF σ 0 28) ∧ (rF σ 0 28) ≤ 4001
def post_X14_bar_b (σ : rS)  (r : Int) : Prop := r = -1 ∨ ((rF σ 0 29) ≤ r ∧ r < (rF σ 0 28) ∧ BX (rA σ 1026) (rF σ 0 28) r (rF σ 0 29))
def inv_X14_bar_b_7 (σ : rS)   (s : rS) (k : Int) (more : Int) : Prop := (rF σ 0 29) ≤ k ∧ k ≤ (rF σ 0 28) ∧ (more = 0 ∨ more = 1) ∧ J7 (rA σ 1026) (rF σ 0 28) (rF σ 0 29) k more
def mu_X14_bar_b_7 (σ : rS)  (s : rS) (k : Int) (more : Int) : Nat := (1 + 2 * ((rF σ 0 28) - k).toNat + more.toNat)
def inv_X14_bar_b_11 (σ : rS)  (m7 : Nat) (s : rS) (k : Int) : Prop := (rF σ 0 29) ≤ k ∧ k ≤ (rF σ 0 28) ∧ 2 * ((rF σ 0 28) - k).toNat + 2 ≤ m7 ∧ J11 (rA σ 1026) (rF σ 0 28) (rF σ 0 29) k
def mu_X14_bar_b_11 (σ : rS)  (s : rS) (k : Int) : Nat := (1 + ((rF σ 0 28) - k).toNat)
def inv_X14_bar_b_59 (σ : rS)  (m7 : Nat) (s : rS) (k : Int) : Prop := (rF σ 0 29) ≤ k ∧ k ≤ (rF σ 0 28) ∧ 2 * ((rF σ 0 28) - k).toNat + 2 < m7 ∧ J59 (rA σ 1026) (rF σ 0 28) (rF σ 0 29) k
def mu_X14_bar_b_59 (σ : rS)  (s : rS) (k : Int) : Nat := (1 + ((rF σ 0 28) - k).toNat)
def VC_X14_bar_b (σ : rS) (Q : Int → Prop) : Prop := (rng (rF σ 0 29) → (inv_X14_bar_b_7 σ σ (rF σ 0 29) 1))
def VC_X14_bar_b_59 (σ : rS) (Q : Int → Prop) : Prop := ∀ (m7 : Nat) (y59_1 : Int), rng y59_1 → inv_X14_bar_b_59 σ m7 σ y59_1 → ((rng (rF σ 0 28) → (((rF σ 0 28) ≤ y59_1 → (((rF σ 0 28) ≤ y59_1 → (inv_X14_bar_b_7 σ σ y59_1 0 ∧ (mu_X14_bar_b_7 σ σ y59_1 0) < m7)) ∧ (¬ (rF σ 0 28) ≤ y59_1 → (0 ≤ y59_1 ∧ y59_1 < 4001) ∧ (rng (rA σ 1026 y59_1) → ((¬ (rA σ 1026 y59_1) = 44 → (inv_X14_bar_b_7 σ σ y59_1 0 ∧ (mu_X14_bar_b_7 σ σ y59_1 0) < m7)) ∧ ((rA σ 1026 y59_1) = 44 → rng (y59_1 + 1) ∧ (inv_X14_bar_b_7 σ σ (y59_1 + 1) 1 ∧ (mu_X14_bar_b_7 σ σ (y59_1 + 1) 1) < m7))))))) ∧ (¬ (rF σ 0 28) ≤ y59_1 → (0 ≤ y59_1 ∧ y59_1 < 4001) ∧ (rng (rA σ 1026 y59_1) → pre_X14_isBlank σ (rA σ 1026 y59_1) ∧ (∀ (v73 : Int), rng v73 → post_X14_isBlank σ (rA σ 1026 y59_1) v73 → ((v73 = 0 → (((rF σ 0 28) ≤ y59_1 → (inv_X14_bar_b_7 σ σ y59_1 0 ∧ (mu_X14_bar_b_7 σ σ y59_1 0) < m7)) ∧ (¬ (rF σ 0 28) ≤ y59_1 → (0 ≤ y59_1 ∧ y59_1 < 4001) ∧ ((¬ (rA σ 1026 y59_1) = 44 → (inv_X14_bar_b_7 σ σ y59_1 0 ∧ (mu_X14_bar_b_7 σ σ y59_1 0) < m7)) ∧ ((rA σ 1026 y59_1) = 44 → rng (y59_1 + 1) ∧ (inv_X14_bar_b_7 σ σ (y59_1 + 1) 1 ∧ (mu_X14_bar_b_7 σ σ (y59_1 + 1) 1) < m7)))))) ∧ (¬ v73 = 0 → rng (y59_1 + 1) ∧ (inv_X14_bar_b_59 σ m7 σ (y59_1 + 1) ∧ (mu_X14_bar_b_59 σ σ (y59_1 + 1)) < (mu_X14_bar_b_59 σ σ y59_1))))))))))
def VC_X14_bar_b_59m (σ : rS) : Prop := ∀ (m7 : Nat) (y59_1 : Int), rng y59_1 → inv_X14_bar_b_59 σ m7 σ y59_1 → 0 < (mu_X14_bar_b_59 σ σ y59_1)
def VC_X14_bar_b_11 (σ : rS) (Q : Int → Prop) : Prop := ∀ (m7 : Nat) (y11_1 : Int), rng y11_1 → inv_X14_bar_b_11 σ m7 σ y11_1 → ((rng (rF σ 0 28) → (((rF σ 0 28) ≤ y11_1 → pre_X14_wordEnd_w σ 1026 4001 (rF σ 0 28) y11_1 ∧ (∀ (v46 : Int), rng v46 → post_X14_wordEnd_w σ 1026 4001 (rF σ 0 28) y11_1 v46 → ((¬ v46 = y11_1 → (inv_X14_bar_b_59 σ m7 σ v46)) ∧ (v46 = y11_1 → Q (-1))))) ∧ (¬ (rF σ 0 28) ≤ y11_1 → (0 ≤ y11_1 ∧ y11_1 < 4001) ∧ (rng (rA σ 1026 y11_1) → pre_X14_isBlank σ (rA σ 1026 y11_1) ∧ (∀ (v25 : Int), rng v25 → post_X14_isBlank σ (rA σ 1026 y11_1) v25 → ((v25 = 0 → pre_X14_wordEnd_w σ 1026 4001 (rF σ 0 28) y11_1 ∧ (∀ (v46 : Int), rng v46 → post_X14_wordEnd_w σ 1026 4001 (rF σ 0 28) y11_1 v46 → ((¬ v46 = y11_1 → (inv_X14_bar_b_59 σ m7 σ v46)) ∧ (v46 = y11_1 → Q (-1))))) ∧ (¬ v25 = 0 → rng (y11_1 + 1) ∧ (inv_X14_bar_b_11 σ m7 σ (y11_1 + 1) ∧ (mu_X14_bar_b_11 σ σ (y11_1 + 1)) < (mu_X14_bar_b_11 σ σ y11_1))))))))))
def VC_X14_bar_b_11m (σ : rS) : Prop := ∀ (m7 : Nat) (y11_1 : Int), rng y11_1 → inv_X14_bar_b_11 σ m7 σ y11_1 → 0 < (mu_X14_bar_b_11 σ σ y11_1)
def VC_X14_bar_b_7 (σ : rS) (Q : Int → Prop) : Prop := ∀ (y7_1 : Int) (y7_2 : Int), rng y7_1 → rng y7_2 → inv_X14_bar_b_7 σ σ y7_1 y7_2 → (((y7_2 = 0 → (rng (rF σ 0 28) → (((rF σ 0 28) ≤ y7_1 → Q (-1)) ∧ (¬ (rF σ 0 28) ≤ y7_1 → (0 ≤ y7_1 ∧ y7_1 < 4001) ∧ (rng (rA σ 1026 y7_1) → ((¬ (rA σ 1026 y7_1) = 124 → Q (-1)) ∧ ((rA σ 1026 y7_1) = 124 → Q y7_1))))))) ∧ (¬ y7_2 = 0 → (inv_X14_bar_b_11 σ (mu_X14_bar_b_7 σ σ y7_1 y7_2) σ y7_1))))
def VC_X14_bar_b_7m (σ : rS) : Prop := ∀ (y7_1 : Int) (y7_2 : Int), rng y7_1 → rng y7_2 → inv_X14_bar_b_7 σ σ y7_1 y7_2 → 0 < (mu_X14_bar_b_7 σ σ y7_1 y7_2)
set_option maxHeartbeats 20000000 in
theorem vX14_bar_b (σ : rS) (hwf : rWF σ) (hp : pre_X14_bar_b σ ) : VC_X14_bar_b σ (post_X14_bar_b σ ) := by
  unfold pre_X14_bar_b at hp
  obtain ⟨hp_1, hp_2, hp_3⟩ := hp
  unfold VC_X14_bar_b
  intro hr_; unfold rng at hr_
  exact (by (try simp only [inv_X14_bar_b_7]); (all_goals (repeat' (first | with_reducible intro _ | with_reducible apply And.intro))); all_goals (first | assumption | trivial | omega | (have zz_ := fz_z (by assumption); omega) | (split <;> omega) | (exact J7.i) | (exact J11.i (by assumption) (by omega)) | (exact J11.s (by assumption) (by omega) (by unfold BLp; omega)) | (exact J59.i (by assumption) (fun h_ => by unfold BLp; omega) (by assumption) (by omega)) | (exact J59.s (by assumption) (by omega) (by unfold BLp; omega)) | (exact J7.m (by assumption) (fun h_ => by unfold BLp; omega) (by omega) (by omega)) | (exact J7.e (by assumption) (fun h_ => by unfold BLp; omega)) | (exact Or.inr ⟨by omega, by omega, J7.o (by assumption) (by omega) (by omega) (by omega)⟩) | (exact Or.inl (by omega)) | grind (splits := 20)))
set_option maxHeartbeats 20000000 in
theorem vX14_bar_b_59 (σ : rS) (hwf : rWF σ) (hp : pre_X14_bar_b σ ) : VC_X14_bar_b_59 σ (post_X14_bar_b σ ) := by
  unfold pre_X14_bar_b at hp
  obtain ⟨hp_1, hp_2, hp_3⟩ := hp
  unfold VC_X14_bar_b_59
  intro m7 y59_1 hy59_1 I59
  unfold inv_X14_bar_b_59 at I59
  obtain ⟨I59_1, I59_2, I59_3, I59_4⟩ := I59
  intro hr_; unfold rng at hr_
  refine ⟨fun c64 => ?_, fun c64 => ?_⟩
  · refine ⟨fun c90 => ?_, fun c90 => ?_⟩
    · exact (by (try simp only [inv_X14_bar_b_7, mu_X14_bar_b_7]); (all_goals (repeat' (first | with_reducible intro _ | with_reducible apply And.intro))); all_goals (first | assumption | trivial | omega | (have zz_ := fz_z (by assumption); omega) | (split <;> omega) | (exact J7.i) | (exact J11.i (by assumption) (by omega)) | (exact J11.s (by assumption) (by omega) (by unfold BLp; omega)) | (exact J59.i (by assumption) (fun h_ => by unfold BLp; omega) (by assumption) (by omega)) | (exact J59.s (by assumption) (by omega) (by unfold BLp; omega)) | (exact J7.m (by assumption) (fun h_ => by unfold BLp; omega) (by omega) (by omega)) | (exact J7.e (by assumption) (fun h_ => by unfold BLp; omega)) | (exact Or.inr ⟨by omega, by omega, J7.o (by assumption) (by omega) (by omega) (by omega)⟩) | (exact Or.inl (by omega)) | grind (splits := 20)))
    · refine ⟨(by (all_goals (repeat' (first | with_reducible intro _ | with_reducible apply And.intro))); all_goals (first | assumption | trivial | omega | (have zz_ := fz_z (by assumption); omega) | (split <;> omega) | (exact J7.i) | (exact J11.i (by assumption) (by omega)) | (exact J11.s (by assumption) (by omega) (by unfold BLp; omega)) | (exact J59.i (by assumption) (fun h_ => by unfold BLp; omega) (by assumption) (by omega)) | (exact J59.s (by assumption) (by omega) (by unfold BLp; omega)) | (exact J7.m (by assumption) (fun h_ => by unfold BLp; omega) (by omega) (by omega)) | (exact J7.e (by assumption) (fun h_ => by unfold BLp; omega)) | (exact Or.inr ⟨by omega, by omega, J7.o (by assumption) (by omega) (by omega) (by omega)⟩) | (exact Or.inl (by omega)) | grind (splits := 20))), ?_⟩
      intro hr_; unfold rng at hr_
      refine ⟨fun c101 => ?_, fun c101 => ?_⟩
      · exact (by (try simp only [inv_X14_bar_b_7, mu_X14_bar_b_7]); (all_goals (repeat' (first | with_reducible intro _ | with_reducible apply And.intro))); all_goals (first | assumption | trivial | omega | (have zz_ := fz_z (by assumption); omega) | (split <;> omega) | (exact J7.i) | (exact J11.i (by assumption) (by omega)) | (exact J11.s (by assumption) (by omega) (by unfold BLp; omega)) | (exact J59.i (by assumption) (fun h_ => by unfold BLp; omega) (by assumption) (by omega)) | (exact J59.s (by assumption) (by omega) (by unfold BLp; omega)) | (exact J7.m (by assumption) (fun h_ => by unfold BLp; omega) (by omega) (by omega)) | (exact J7.e (by assumption) (fun h_ => by unfold BLp; omega)) | (exact Or.inr ⟨by omega, by omega, J7.o (by assumption) (by omega) (by omega) (by omega)⟩) | (exact Or.inl (by omega)) | grind (splits := 20)))
      · refine ⟨(by (try simp only [rng]); (all_goals (repeat' (first | with_reducible intro _ | with_reducible apply And.intro))); all_goals (first | assumption | trivial | omega | (have zz_ := fz_z (by assumption); omega) | (split <;> omega) | (exact J7.i) | (exact J11.i (by assumption) (by omega)) | (exact J11.s (by assumption) (by omega) (by unfold BLp; omega)) | (exact J59.i (by assumption) (fun h_ => by unfold BLp; omega) (by assumption) (by omega)) | (exact J59.s (by assumption) (by omega) (by unfold BLp; omega)) | (exact J7.m (by assumption) (fun h_ => by unfold BLp; omega) (by omega) (by omega)) | (exact J7.e (by assumption) (fun h_ => by unfold BLp; omega)) | (exact Or.inr ⟨by omega, by omega, J7.o (by assumption) (by omega) (by omega) (by omega)⟩) | (exact Or.inl (by omega)) | grind (splits := 20))), ?_⟩
        exact (by (try simp only [inv_X14_bar_b_7, mu_X14_bar_b_7]); (all_goals (repeat' (first | with_reducible intro _ | with_reducible apply And.intro))); all_goals (first | assumption | trivial | omega | (have zz_ := fz_z (by assumption); omega) | (split <;> omega) | (exact J7.i) | (exact J11.i (by assumption) (by omega)) | (exact J11.s (by assumption) (by omega) (by unfold BLp; omega)) | (exact J59.i (by assumption) (fun h_ => by unfold BLp; omega) (by assumption) (by omega)) | (exact J59.s (by assumption) (by omega) (by unfold BLp; omega)) | (exact J7.m (by assumption) (fun h_ => by unfold BLp; omega) (by omega) (by omega)) | (exact J7.e (by assumption) (fun h_ => by unfold BLp; omega)) | (exact Or.inr ⟨by omega, by omega, J7.o (by assumption) (by omega) (by omega) (by omega)⟩) | (exact Or.inl (by omega)) | grind (splits := 20)))
  · refine ⟨(by (all_goals (repeat' (first | with_reducible intro _ | with_reducible apply And.intro))); all_goals (first | assumption | trivial | omega | (have zz_ := fz_z (by assumption); omega) | (split <;> omega) | (exact J7.i) | (exact J11.i (by assumption) (by omega)) | (exact J11.s (by assumption) (by omega) (by unfold BLp; omega)) | (exact J59.i (by assumption) (fun h_ => by unfold BLp; omega) (by assumption) (by omega)) | (exact J59.s (by assumption) (by omega) (by unfold BLp; omega)) | (exact J7.m (by assumption) (fun h_ => by unfold BLp; omega) (by omega) (by omega)) | (exact J7.e (by assumption) (fun h_ => by unfold BLp; omega)) | (exact Or.inr ⟨by omega, by omega, J7.o (by assumption) (by omega) (by omega) (by omega)⟩) | (exact Or.inl (by omega)) | grind (splits := 20))), ?_⟩
    intro hr_; unfold rng at hr_
    refine ⟨(by (try simp only [pre_X14_isBlank]); (all_goals (repeat' (first | with_reducible intro _ | with_reducible apply And.intro))); all_goals (first | assumption | trivial | omega | (have zz_ := fz_z (by assumption); omega) | (split <;> omega) | (exact J7.i) | (exact J11.i (by assumption) (by omega)) | (exact J11.s (by assumption) (by omega) (by unfold BLp; omega)) | (exact J59.i (by assumption) (fun h_ => by unfold BLp; omega) (by assumption) (by omega)) | (exact J59.s (by assumption) (by omega) (by unfold BLp; omega)) | (exact J7.m (by assumption) (fun h_ => by unfold BLp; omega) (by omega) (by omega)) | (exact J7.e (by assumption) (fun h_ => by unfold BLp; omega)) | (exact Or.inr ⟨by omega, by omega, J7.o (by assumption) (by omega) (by omega) (by omega)⟩) | (exact Or.inl (by omega)) | grind (splits := 20))), ?_⟩
    intro v73 hv73 q73
    unfold rng at hv73
    unfold post_X14_isBlank at q73
    obtain ⟨q73_1, q73_2⟩ := q73
    refine ⟨fun c76 => ?_, fun c76 => ?_⟩
    · refine ⟨fun c90 => ?_, fun c90 => ?_⟩
      · exact (by (try simp only [inv_X14_bar_b_7, mu_X14_bar_b_7]); (all_goals (repeat' (first | with_reducible intro _ | with_reducible apply And.intro))); all_goals (first | assumption | trivial | omega | (have zz_ := fz_z (by assumption); omega) | (split <;> omega) | (exact J7.i) | (exact J11.i (by assumption) (by omega)) | (exact J11.s (by assumption) (by omega) (by unfold BLp; omega)) | (exact J59.i (by assumption) (fun h_ => by unfold BLp; omega) (by assumption) (by omega)) | (exact J59.s (by assumption) (by omega) (by unfold BLp; omega)) | (exact J7.m (by assumption) (fun h_ => by unfold BLp; omega) (by omega) (by omega)) | (exact J7.e (by assumption) (fun h_ => by unfold BLp; omega)) | (exact Or.inr ⟨by omega, by omega, J7.o (by assumption) (by omega) (by omega) (by omega)⟩) | (exact Or.inl (by omega)) | grind (splits := 20)))
      · refine ⟨(by (all_goals (repeat' (first | with_reducible intro _ | with_reducible apply And.intro))); all_goals (first | assumption | trivial | omega | (have zz_ := fz_z (by assumption); omega) | (split <;> omega) | (exact J7.i) | (exact J11.i (by assumption) (by omega)) | (exact J11.s (by assumption) (by omega) (by unfold BLp; omega)) | (exact J59.i (by assumption) (fun h_ => by unfold BLp; omega) (by assumption) (by omega)) | (exact J59.s (by assumption) (by omega) (by unfold BLp; omega)) | (exact J7.m (by assumption) (fun h_ => by unfold BLp; omega) (by omega) (by omega)) | (exact J7.e (by assumption) (fun h_ => by unfold BLp; omega)) | (exact Or.inr ⟨by omega, by omega, J7.o (by assumption) (by omega) (by omega) (by omega)⟩) | (exact Or.inl (by omega)) | grind (splits := 20))), ?_⟩
        refine ⟨fun c101 => ?_, fun c101 => ?_⟩
        · exact (by (try simp only [inv_X14_bar_b_7, mu_X14_bar_b_7]); (all_goals (repeat' (first | with_reducible intro _ | with_reducible apply And.intro))); all_goals (first | assumption | trivial | omega | (have zz_ := fz_z (by assumption); omega) | (split <;> omega) | (exact J7.i) | (exact J11.i (by assumption) (by omega)) | (exact J11.s (by assumption) (by omega) (by unfold BLp; omega)) | (exact J59.i (by assumption) (fun h_ => by unfold BLp; omega) (by assumption) (by omega)) | (exact J59.s (by assumption) (by omega) (by unfold BLp; omega)) | (exact J7.m (by assumption) (fun h_ => by unfold BLp; omega) (by omega) (by omega)) | (exact J7.e (by assumption) (fun h_ => by unfold BLp; omega)) | (exact Or.inr ⟨by omega, by omega, J7.o (by assumption) (by omega) (by omega) (by omega)⟩) | (exact Or.inl (by omega)) | grind (splits := 20)))
        · refine ⟨(by (try simp only [rng]); (all_goals (repeat' (first | with_reducible intro _ | with_reducible apply And.intro))); all_goals (first | assumption | trivial | omega | (have zz_ := fz_z (by assumption); omega) | (split <;> omega) | (exact J7.i) | (exact J11.i (by assumption) (by omega)) | (exact J11.s (by assumption) (by omega) (by unfold BLp; omega)) | (exact J59.i (by assumption) (fun h_ => by unfold BLp; omega) (by assumption) (by omega)) | (exact J59.s (by assumption) (by omega) (by unfold BLp; omega)) | (exact J7.m (by assumption) (fun h_ => by unfold BLp; omega) (by omega) (by omega)) | (exact J7.e (by assumption) (fun h_ => by unfold BLp; omega)) | (exact Or.inr ⟨by omega, by omega, J7.o (by assumption) (by omega) (by omega) (by omega)⟩) | (exact Or.inl (by omega)) | grind (splits := 20))), ?_⟩
          exact (by (try simp only [inv_X14_bar_b_7, mu_X14_bar_b_7]); (all_goals (repeat' (first | with_reducible intro _ | with_reducible apply And.intro))); all_goals (first | assumption | trivial | omega | (have zz_ := fz_z (by assumption); omega) | (split <;> omega) | (exact J7.i) | (exact J11.i (by assumption) (by omega)) | (exact J11.s (by assumption) (by omega) (by unfold BLp; omega)) | (exact J59.i (by assumption) (fun h_ => by unfold BLp; omega) (by assumption) (by omega)) | (exact J59.s (by assumption) (by omega) (by unfold BLp; omega)) | (exact J7.m (by assumption) (fun h_ => by unfold BLp; omega) (by omega) (by omega)) | (exact J7.e (by assumption) (fun h_ => by unfold BLp; omega)) | (exact Or.inr ⟨by omega, by omega, J7.o (by assumption) (by omega) (by omega) (by omega)⟩) | (exact Or.inl (by omega)) | grind (splits := 20)))
    · refine ⟨(by (try simp only [rng]); (all_goals (repeat' (first | with_reducible intro _ | with_reducible apply And.intro))); all_goals (first | assumption | trivial | omega | (have zz_ := fz_z (by assumption); omega) | (split <;> omega) | (exact J7.i) | (exact J11.i (by assumption) (by omega)) | (exact J11.s (by assumption) (by omega) (by unfold BLp; omega)) | (exact J59.i (by assumption) (fun h_ => by unfold BLp; omega) (by assumption) (by omega)) | (exact J59.s (by assumption) (by omega) (by unfold BLp; omega)) | (exact J7.m (by assumption) (fun h_ => by unfold BLp; omega) (by omega) (by omega)) | (exact J7.e (by assumption) (fun h_ => by unfold BLp; omega)) | (exact Or.inr ⟨by omega, by omega, J7.o (by assumption) (by omega) (by omega) (by omega)⟩) | (exact Or.inl (by omega)) | grind (splits := 20))), ?_⟩
      exact (by (try simp only [inv_X14_bar_b_59, mu_X14_bar_b_59, mu_X14_bar_b_59]); (all_goals (repeat' (first | with_reducible intro _ | with_reducible apply And.intro))); all_goals (first | assumption | trivial | omega | (have zz_ := fz_z (by assumption); omega) | (split <;> omega) | (exact J7.i) | (exact J11.i (by assumption) (by omega)) | (exact J11.s (by assumption) (by omega) (by unfold BLp; omega)) | (exact J59.i (by assumption) (fun h_ => by unfold BLp; omega) (by assumption) (by omega)) | (exact J59.s (by assumption) (by omega) (by unfold BLp; omega)) | (exact J7.m (by assumption) (fun h_ => by unfold BLp; omega) (by omega) (by omega)) | (exact J7.e (by assumption) (fun h_ => by unfold BLp; omega)) | (exact Or.inr ⟨by omega, by omega, J7.o (by assumption) (by omega) (by omega) (by omega)⟩) | (exact Or.inl (by omega)) | grind (splits := 20)))
set_option maxHeartbeats 20000000 in
theorem vX14_bar_b_59m (σ : rS) (hwf : rWF σ) (hp : pre_X14_bar_b σ ) : VC_X14_bar_b_59m σ := by
  unfold pre_X14_bar_b at hp
  obtain ⟨hp_1, hp_2, hp_3⟩ := hp
  unfold VC_X14_bar_b_59m
  (try simp only [inv_X14_bar_b_59, mu_X14_bar_b_59]); (all_goals (repeat' (first | with_reducible intro _ | with_reducible apply And.intro))); all_goals (first | assumption | omega | grind (splits := 20))
set_option maxHeartbeats 20000000 in
theorem vX14_bar_b_11 (σ : rS) (hwf : rWF σ) (hp : pre_X14_bar_b σ ) : VC_X14_bar_b_11 σ (post_X14_bar_b σ ) := by
  unfold pre_X14_bar_b at hp
  obtain ⟨hp_1, hp_2, hp_3⟩ := hp
  unfold VC_X14_bar_b_11
  intro m7 y11_1 hy11_1 I11
  unfold inv_X14_bar_b_11 at I11
  obtain ⟨I11_1, I11_2, I11_3, I11_4⟩ := I11
  intro hr_; unfold rng at hr_
  refine ⟨fun c16 => ?_, fun c16 => ?_⟩
  · refine ⟨(by (try simp only [pre_X14_wordEnd_w]); (all_goals (repeat' (first | with_reducible intro _ | with_reducible apply And.intro))); all_goals (first | assumption | trivial | omega | (have zz_ := fz_z (by assumption); omega) | (split <;> omega) | (exact J7.i) | (exact J11.i (by assumption) (by omega)) | (exact J11.s (by assumption) (by omega) (by unfold BLp; omega)) | (exact J59.i (by assumption) (fun h_ => by unfold BLp; omega) (by assumption) (by omega)) | (exact J59.s (by assumption) (by omega) (by unfold BLp; omega)) | (exact J7.m (by assumption) (fun h_ => by unfold BLp; omega) (by omega) (by omega)) | (exact J7.e (by assumption) (fun h_ => by unfold BLp; omega)) | (exact Or.inr ⟨by omega, by omega, J7.o (by assumption) (by omega) (by omega) (by omega)⟩) | (exact Or.inl (by omega)) | grind (splits := 20))), ?_⟩
    intro v46 hv46 q46
    unfold rng at hv46
    unfold post_X14_wordEnd_w at q46
    obtain ⟨q46_1, q46_2, q46_3⟩ := q46
    refine ⟨fun c52 => ?_, fun c52 => ?_⟩
    · exact (by (try simp only [inv_X14_bar_b_59]); (all_goals (repeat' (first | with_reducible intro _ | with_reducible apply And.intro))); all_goals (first | assumption | trivial | omega | (have zz_ := fz_z (by assumption); omega) | (split <;> omega) | (exact J7.i) | (exact J11.i (by assumption) (by omega)) | (exact J11.s (by assumption) (by omega) (by unfold BLp; omega)) | (exact J59.i (by assumption) (fun h_ => by unfold BLp; omega) (by assumption) (by omega)) | (exact J59.s (by assumption) (by omega) (by unfold BLp; omega)) | (exact J7.m (by assumption) (fun h_ => by unfold BLp; omega) (by omega) (by omega)) | (exact J7.e (by assumption) (fun h_ => by unfold BLp; omega)) | (exact Or.inr ⟨by omega, by omega, J7.o (by assumption) (by omega) (by omega) (by omega)⟩) | (exact Or.inl (by omega)) | grind (splits := 20)))
    · exact (by (try simp only [post_X14_bar_b]); (all_goals (repeat' (first | with_reducible intro _ | with_reducible apply And.intro))); all_goals (first | assumption | trivial | omega | (have zz_ := fz_z (by assumption); omega) | (split <;> omega) | (exact J7.i) | (exact J11.i (by assumption) (by omega)) | (exact J11.s (by assumption) (by omega) (by unfold BLp; omega)) | (exact J59.i (by assumption) (fun h_ => by unfold BLp; omega) (by assumption) (by omega)) | (exact J59.s (by assumption) (by omega) (by unfold BLp; omega)) | (exact J7.m (by assumption) (fun h_ => by unfold BLp; omega) (by omega) (by omega)) | (exact J7.e (by assumption) (fun h_ => by unfold BLp; omega)) | (exact Or.inr ⟨by omega, by omega, J7.o (by assumption) (by omega) (by omega) (by omega)⟩) | (exact Or.inl (by omega)) | grind (splits := 20)))
  · refine ⟨(by (all_goals (repeat' (first | with_reducible intro _ | with_reducible apply And.intro))); all_goals (first | assumption | trivial | omega | (have zz_ := fz_z (by assumption); omega) | (split <;> omega) | (exact J7.i) | (exact J11.i (by assumption) (by omega)) | (exact J11.s (by assumption) (by omega) (by unfold BLp; omega)) | (exact J59.i (by assumption) (fun h_ => by unfold BLp; omega) (by assumption) (by omega)) | (exact J59.s (by assumption) (by omega) (by unfold BLp; omega)) | (exact J7.m (by assumption) (fun h_ => by unfold BLp; omega) (by omega) (by omega)) | (exact J7.e (by assumption) (fun h_ => by unfold BLp; omega)) | (exact Or.inr ⟨by omega, by omega, J7.o (by assumption) (by omega) (by omega) (by omega)⟩) | (exact Or.inl (by omega)) | grind (splits := 20))), ?_⟩
    intro hr_; unfold rng at hr_
    refine ⟨(by (try simp only [pre_X14_isBlank]); (all_goals (repeat' (first | with_reducible intro _ | with_reducible apply And.intro))); all_goals (first | assumption | trivial | omega | (have zz_ := fz_z (by assumption); omega) | (split <;> omega) | (exact J7.i) | (exact J11.i (by assumption) (by omega)) | (exact J11.s (by assumption) (by omega) (by unfold BLp; omega)) | (exact J59.i (by assumption) (fun h_ => by unfold BLp; omega) (by assumption) (by omega)) | (exact J59.s (by assumption) (by omega) (by unfold BLp; omega)) | (exact J7.m (by assumption) (fun h_ => by unfold BLp; omega) (by omega) (by omega)) | (exact J7.e (by assumption) (fun h_ => by unfold BLp; omega)) | (exact Or.inr ⟨by omega, by omega, J7.o (by assumption) (by omega) (by omega) (by omega)⟩) | (exact Or.inl (by omega)) | grind (splits := 20))), ?_⟩
    intro v25 hv25 q25
    unfold rng at hv25
    unfold post_X14_isBlank at q25
    obtain ⟨q25_1, q25_2⟩ := q25
    refine ⟨fun c28 => ?_, fun c28 => ?_⟩
    · refine ⟨(by (try simp only [pre_X14_wordEnd_w]); (all_goals (repeat' (first | with_reducible intro _ | with_reducible apply And.intro))); all_goals (first | assumption | trivial | omega | (have zz_ := fz_z (by assumption); omega) | (split <;> omega) | (exact J7.i) | (exact J11.i (by assumption) (by omega)) | (exact J11.s (by assumption) (by omega) (by unfold BLp; omega)) | (exact J59.i (by assumption) (fun h_ => by unfold BLp; omega) (by assumption) (by omega)) | (exact J59.s (by assumption) (by omega) (by unfold BLp; omega)) | (exact J7.m (by assumption) (fun h_ => by unfold BLp; omega) (by omega) (by omega)) | (exact J7.e (by assumption) (fun h_ => by unfold BLp; omega)) | (exact Or.inr ⟨by omega, by omega, J7.o (by assumption) (by omega) (by omega) (by omega)⟩) | (exact Or.inl (by omega)) | grind (splits := 20))), ?_⟩
      intro v46 hv46 q46
      unfold rng at hv46
      unfold post_X14_wordEnd_w at q46
      obtain ⟨q46_1, q46_2, q46_3⟩ := q46
      refine ⟨fun c52 => ?_, fun c52 => ?_⟩
      · exact (by (try simp only [inv_X14_bar_b_59]); (all_goals (repeat' (first | with_reducible intro _ | with_reducible apply And.intro))); all_goals (first | assumption | trivial | omega | (have zz_ := fz_z (by assumption); omega) | (split <;> omega) | (exact J7.i) | (exact J11.i (by assumption) (by omega)) | (exact J11.s (by assumption) (by omega) (by unfold BLp; omega)) | (exact J59.i (by assumption) (fun h_ => by unfold BLp; omega) (by assumption) (by omega)) | (exact J59.s (by assumption) (by omega) (by unfold BLp; omega)) | (exact J7.m (by assumption) (fun h_ => by unfold BLp; omega) (by omega) (by omega)) | (exact J7.e (by assumption) (fun h_ => by unfold BLp; omega)) | (exact Or.inr ⟨by omega, by omega, J7.o (by assumption) (by omega) (by omega) (by omega)⟩) | (exact Or.inl (by omega)) | grind (splits := 20)))
      · exact (by (try simp only [post_X14_bar_b]); (all_goals (repeat' (first | with_reducible intro _ | with_reducible apply And.intro))); all_goals (first | assumption | trivial | omega | (have zz_ := fz_z (by assumption); omega) | (split <;> omega) | (exact J7.i) | (exact J11.i (by assumption) (by omega)) | (exact J11.s (by assumption) (by omega) (by unfold BLp; omega)) | (exact J59.i (by assumption) (fun h_ => by unfold BLp; omega) (by assumption) (by omega)) | (exact J59.s (by assumption) (by omega) (by unfold BLp; omega)) | (exact J7.m (by assumption) (fun h_ => by unfold BLp; omega) (by omega) (by omega)) | (exact J7.e (by assumption) (fun h_ => by unfold BLp; omega)) | (exact Or.inr ⟨by omega, by omega, J7.o (by assumption) (by omega) (by omega) (by omega)⟩) | (exact Or.inl (by omega)) | grind (splits := 20)))
    · refine ⟨(by (try simp only [rng]); (all_goals (repeat' (first | with_reducible intro _ | with_reducible apply And.intro))); all_goals (first | assumption | trivial | omega | (have zz_ := fz_z (by assumption); omega) | (split <;> omega) | (exact J7.i) | (exact J11.i (by assumption) (by omega)) | (exact J11.s (by assumption) (by omega) (by unfold BLp; omega)) | (exact J59.i (by assumption) (fun h_ => by unfold BLp; omega) (by assumption) (by omega)) | (exact J59.s (by assumption) (by omega) (by unfold BLp; omega)) | (exact J7.m (by assumption) (fun h_ => by unfold BLp; omega) (by omega) (by omega)) | (exact J7.e (by assumption) (fun h_ => by unfold BLp; omega)) | (exact Or.inr ⟨by omega, by omega, J7.o (by assumption) (by omega) (by omega) (by omega)⟩) | (exact Or.inl (by omega)) | grind (splits := 20))), ?_⟩
      exact (by (try simp only [inv_X14_bar_b_11, mu_X14_bar_b_11, mu_X14_bar_b_11]); (all_goals (repeat' (first | with_reducible intro _ | with_reducible apply And.intro))); all_goals (first | assumption | trivial | omega | (have zz_ := fz_z (by assumption); omega) | (split <;> omega) | (exact J7.i) | (exact J11.i (by assumption) (by omega)) | (exact J11.s (by assumption) (by omega) (by unfold BLp; omega)) | (exact J59.i (by assumption) (fun h_ => by unfold BLp; omega) (by assumption) (by omega)) | (exact J59.s (by assumption) (by omega) (by unfold BLp; omega)) | (exact J7.m (by assumption) (fun h_ => by unfold BLp; omega) (by omega) (by omega)) | (exact J7.e (by assumption) (fun h_ => by unfold BLp; omega)) | (exact Or.inr ⟨by omega, by omega, J7.o (by assumption) (by omega) (by omega) (by omega)⟩) | (exact Or.inl (by omega)) | grind (splits := 20)))
set_option maxHeartbeats 20000000 in
theorem vX14_bar_b_11m (σ : rS) (hwf : rWF σ) (hp : pre_X14_bar_b σ ) : VC_X14_bar_b_11m σ := by
  unfold pre_X14_bar_b at hp
  obtain ⟨hp_1, hp_2, hp_3⟩ := hp
  unfold VC_X14_bar_b_11m
  (try simp only [inv_X14_bar_b_11, mu_X14_bar_b_11]); (all_goals (repeat' (first | with_reducible intro _ | with_reducible apply And.intro))); all_goals (first | assumption | omega | grind (splits := 20))
set_option maxHeartbeats 20000000 in
theorem vX14_bar_b_7 (σ : rS) (hwf : rWF σ) (hp : pre_X14_bar_b σ ) : VC_X14_bar_b_7 σ (post_X14_bar_b σ ) := by
  unfold pre_X14_bar_b at hp
  obtain ⟨hp_1, hp_2, hp_3⟩ := hp
  unfold VC_X14_bar_b_7
  intro y7_1 y7_2 hy7_1 hy7_2 I7
  unfold inv_X14_bar_b_7 at I7
  obtain ⟨I7_1, I7_2, I7_3, I7_4⟩ := I7
  refine ⟨fun c8 => ?_, fun c8 => ?_⟩
  · intro hr_; unfold rng at hr_
    refine ⟨fun c125 => ?_, fun c125 => ?_⟩
    · exact (by (try simp only [post_X14_bar_b]); (all_goals (repeat' (first | with_reducible intro _ | with_reducible apply And.intro))); all_goals (first | assumption | trivial | omega | (have zz_ := fz_z (by assumption); omega) | (split <;> omega) | (exact J7.i) | (exact J11.i (by assumption) (by omega)) | (exact J11.s (by assumption) (by omega) (by unfold BLp; omega)) | (exact J59.i (by assumption) (fun h_ => by unfold BLp; omega) (by assumption) (by omega)) | (exact J59.s (by assumption) (by omega) (by unfold BLp; omega)) | (exact J7.m (by assumption) (fun h_ => by unfold BLp; omega) (by omega) (by omega)) | (exact J7.e (by assumption) (fun h_ => by unfold BLp; omega)) | (exact Or.inr ⟨by omega, by omega, J7.o (by assumption) (by omega) (by omega) (by omega)⟩) | (exact Or.inl (by omega)) | grind (splits := 20)))
    · refine ⟨(by (all_goals (repeat' (first | with_reducible intro _ | with_reducible apply And.intro))); all_goals (first | assumption | trivial | omega | (have zz_ := fz_z (by assumption); omega) | (split <;> omega) | (exact J7.i) | (exact J11.i (by assumption) (by omega)) | (exact J11.s (by assumption) (by omega) (by unfold BLp; omega)) | (exact J59.i (by assumption) (fun h_ => by unfold BLp; omega) (by assumption) (by omega)) | (exact J59.s (by assumption) (by omega) (by unfold BLp; omega)) | (exact J7.m (by assumption) (fun h_ => by unfold BLp; omega) (by omega) (by omega)) | (exact J7.e (by assumption) (fun h_ => by unfold BLp; omega)) | (exact Or.inr ⟨by omega, by omega, J7.o (by assumption) (by omega) (by omega) (by omega)⟩) | (exact Or.inl (by omega)) | grind (splits := 20))), ?_⟩
      intro hr_; unfold rng at hr_
      refine ⟨fun c136 => ?_, fun c136 => ?_⟩
      · exact (by (try simp only [post_X14_bar_b]); (all_goals (repeat' (first | with_reducible intro _ | with_reducible apply And.intro))); all_goals (first | assumption | trivial | omega | (have zz_ := fz_z (by assumption); omega) | (split <;> omega) | (exact J7.i) | (exact J11.i (by assumption) (by omega)) | (exact J11.s (by assumption) (by omega) (by unfold BLp; omega)) | (exact J59.i (by assumption) (fun h_ => by unfold BLp; omega) (by assumption) (by omega)) | (exact J59.s (by assumption) (by omega) (by unfold BLp; omega)) | (exact J7.m (by assumption) (fun h_ => by unfold BLp; omega) (by omega) (by omega)) | (exact J7.e (by assumption) (fun h_ => by unfold BLp; omega)) | (exact Or.inr ⟨by omega, by omega, J7.o (by assumption) (by omega) (by omega) (by omega)⟩) | (exact Or.inl (by omega)) | grind (splits := 20)))
      · exact (by (try simp only [post_X14_bar_b]); (all_goals (repeat' (first | with_reducible intro _ | with_reducible apply And.intro))); all_goals (first | assumption | trivial | omega | (have zz_ := fz_z (by assumption); omega) | (split <;> omega) | (exact J7.i) | (exact J11.i (by assumption) (by omega)) | (exact J11.s (by assumption) (by omega) (by unfold BLp; omega)) | (exact J59.i (by assumption) (fun h_ => by unfold BLp; omega) (by assumption) (by omega)) | (exact J59.s (by assumption) (by omega) (by unfold BLp; omega)) | (exact J7.m (by assumption) (fun h_ => by unfold BLp; omega) (by omega) (by omega)) | (exact J7.e (by assumption) (fun h_ => by unfold BLp; omega)) | (exact Or.inr ⟨by omega, by omega, J7.o (by assumption) (by omega) (by omega) (by omega)⟩) | (exact Or.inl (by omega)) | grind (splits := 20)))
  · exact (by (try simp only [inv_X14_bar_b_11, mu_X14_bar_b_7]); (all_goals (repeat' (first | with_reducible intro _ | with_reducible apply And.intro))); all_goals (first | assumption | trivial | omega | (have zz_ := fz_z (by assumption); omega) | (split <;> omega) | (exact J7.i) | (exact J11.i (by assumption) (by omega)) | (exact J11.s (by assumption) (by omega) (by unfold BLp; omega)) | (exact J59.i (by assumption) (fun h_ => by unfold BLp; omega) (by assumption) (by omega)) | (exact J59.s (by assumption) (by omega) (by unfold BLp; omega)) | (exact J7.m (by assumption) (fun h_ => by unfold BLp; omega) (by omega) (by omega)) | (exact J7.e (by assumption) (fun h_ => by unfold BLp; omega)) | (exact Or.inr ⟨by omega, by omega, J7.o (by assumption) (by omega) (by omega) (by omega)⟩) | (exact Or.inl (by omega)) | grind (splits := 20)))
set_option maxHeartbeats 20000000 in
theorem vX14_bar_b_7m (σ : rS) (hwf : rWF σ) (hp : pre_X14_bar_b σ ) : VC_X14_bar_b_7m σ := by
  unfold pre_X14_bar_b at hp
  obtain ⟨hp_1, hp_2, hp_3⟩ := hp
  unfold VC_X14_bar_b_7m
  (try simp only [inv_X14_bar_b_7, mu_X14_bar_b_7]); (all_goals (repeat' (first | with_reducible intro _ | with_reducible apply And.intro))); all_goals (first | assumption | omega | grind (splits := 20))
theorem wX14_bar_b (l : Launch) (G : zG) (κ : Nat → Nat) (σ : rS) (hwf : rWF σ) (Q : Int → Prop) (h : VC_X14_bar_b σ Q) (h_59 : VC_X14_bar_b_59 σ Q) (h_59m : VC_X14_bar_b_59m σ ) (h_11 : VC_X14_bar_b_11 σ Q) (h_11m : VC_X14_bar_b_11m σ ) (h_7 : VC_X14_bar_b_7 σ Q) (h_7m : VC_X14_bar_b_7m σ ) : rMi l G κ yX14_bar cX14_bar 4 .int 3 43 [.ref (κ 0)] σ (fun x s => s = σ ∧ Q x) := by
  refine zMi.intro (by decide +kernel) (Nat.le_of_ble_eq_true rfl) (fun X hC hR => ?_)
  refine z_aload_n hC (pc := 0) 0 dX14_bar_0 rfl rfl ?_
  refine y_get hC (pc := 1) zf14 rOb_0 29 (v := iv (rF σ 0 29)) dX14_bar_1 zw2496 (rv_i (Or.inl rfl) rfl) (kk := ?_)
  have h := h (hwf.f _ _)
  refine z_istore_n hC (pc := 4) (lv' := [(1, iv (rF σ 0 29)), (0, .ref (κ 0))]) dX14_bar_4 rfl (by decide) rfl ?_
  refine z_iconst hC (pc := 5) (v := Int32.ofInt 1) dX14_bar_5 (by decide) ?_
  refine z_istore_n hC (pc := 6) (lv' := [(2, iv 1), (1, iv (rF σ 0 29)), (0, .ref (κ 0))]) dX14_bar_6 rfl (by decide) rfl ?_
  have j7 : ∀ (d7 : Nat), ∀ (y7_1 : Int) (y7_2 : Int), rng y7_1 → rng y7_2 → inv_X14_bar_b_7 σ σ y7_1 y7_2 → (mu_X14_bar_b_7 σ  σ y7_1 y7_2) ≤ d7 → zS X G 4 (rW G κ σ) [(0, .ref (κ 0)), (1, iv y7_1), (2, iv y7_2)] 0 0 7 [] := by
    intro d7
    induction d7 with
    | zero =>
      intro y7_1 y7_2 hy7_1 hy7_2 hI hmu
      exact absurd hmu (by have := h_7m   y7_1 y7_2  hy7_1 hy7_2  hI; omega)
    | succ d7 ih7 =>
      intro y7_1 y7_2 hy7_1 hy7_2 hI hmu7
      have h := h_7   y7_1 y7_2  hy7_1 hy7_2  hI
      refine z_iload_n hC (pc := 7) 2 dX14_bar_7 rfl rfl ?_
      have j11 : ∀ (d11 : Nat), ∀ (y11_1 : Int), rng y11_1 → inv_X14_bar_b_11 σ (mu_X14_bar_b_7 σ σ y7_1 y7_2) σ y11_1 → (mu_X14_bar_b_11 σ  σ y11_1) ≤ d11 → zS X G 4 (rW G κ σ) [(0, .ref (κ 0)), (1, iv y11_1)] 0 0 11 [] := by
        intro d11
        induction d11 with
        | zero =>
          intro y11_1 hy11_1 hI hmu
          exact absurd hmu (by have := h_11m (mu_X14_bar_b_7 σ  σ y7_1 y7_2)  y11_1  hy11_1  hI; omega)
        | succ d11 ih11 =>
          intro y11_1 hy11_1 hI hmu11
          have h := h_11 (mu_X14_bar_b_7 σ  σ y7_1 y7_2)  y11_1  hy11_1  hI
          refine z_iload_n hC (pc := 11) 1 dX14_bar_11 rfl rfl ?_
          refine z_aload_n hC (pc := 12) 0 dX14_bar_12 rfl rfl ?_
          refine y_get hC (pc := 13) zf14 rOb_0 28 (v := iv (rF σ 0 28)) dX14_bar_13 zw2495 (rv_i (Or.inl rfl) rfl) (kk := ?_)
          have h := h (hwf.f _ _)
          obtain ⟨hT, hF⟩ := h
          refine y_icmp_ge hC (pc := 16) 37 hy11_1 (hwf.f _ _) dX14_bar_16 (by decide) (fun c => ?_) (fun c => ?_)
          · have h := hT c
            refine z_aload_n hC (pc := 37) 0 dX14_bar_37 rfl rfl ?_
            refine y_get hC (pc := 38) zf14 rOb_0 26 (v := .ref (κ 1026)) dX14_bar_38 zw2493 (rv_c rfl) (kk := ?_)
            refine z_aload_n hC (pc := 41) 0 dX14_bar_41 rfl rfl ?_
            refine y_get hC (pc := 42) zf14 rOb_0 28 (v := iv (rF σ 0 28)) dX14_bar_42 zw2495 (rv_i (Or.inl rfl) rfl) (kk := ?_)
            refine z_iload_n hC (pc := 45) 1 dX14_bar_45 rfl rfl ?_
            obtain ⟨p10, h⟩ := h
            refine y_callSi hC (pc := 46) (As := [.ref (κ 1026), iv (rF σ 0 28), iv y11_1]) (kX14_wordEnd_w l G κ σ 1026 4001 (rF σ 0 28) y11_1 hwf (rAr_m rfl) (hwf.f _ _) hy11_1 p10) dmX14_wordEnd dX14_bar_46 zw3009 rfl rfl (Nat.le_of_ble_eq_true rfl) (Nat.le_of_ble_eq_true rfl) (Nat.le_of_ble_eq_true rfl) (Nat.le_of_ble_eq_true rfl) (Nat.le_of_ble_eq_true rfl) (kk := fun v46 s46 hv46 Ws46 qs46 => ?_)
            obtain ⟨es46, qs46⟩ := qs46
            have es46 := es46.symm
            subst es46
            have h := h v46 hv46 qs46
            refine z_istore_n hC (pc := 49) (lv' := [(3, iv v46), (0, .ref (κ 0)), (1, iv y11_1)]) dX14_bar_49 rfl (by decide) rfl ?_
            refine z_iload_n hC (pc := 50) 0 dX14_bar_50 rfl rfl ?_
            refine z_iload_n hC (pc := 51) 2 dX14_bar_51 rfl rfl ?_
            obtain ⟨hT, hF⟩ := h
            refine y_icmp_ne hC (pc := 52) 57 hv46 hy11_1 dX14_bar_52 (by decide) (fun c => ?_) (fun c => ?_)
            · have h := hT c
              refine z_iload_n hC (pc := 57) 0 dX14_bar_57 rfl rfl ?_
              refine z_istore_n hC (pc := 58) (lv' := [(1, iv v46), (3, iv v46), (0, .ref (κ 0))]) dX14_bar_58 rfl (by decide) rfl ?_
              have j59 : ∀ (d59 : Nat), ∀ (y59_1 : Int), rng y59_1 → inv_X14_bar_b_59 σ (mu_X14_bar_b_7 σ σ y7_1 y7_2) σ y59_1 → (mu_X14_bar_b_59 σ  σ y59_1) ≤ d59 → zS X G 4 (rW G κ σ) [(0, .ref (κ 0)), (1, iv y59_1)] 0 0 59 [] := by
                intro d59
                induction d59 with
                | zero =>
                  intro y59_1 hy59_1 hI hmu
                  exact absurd hmu (by have := h_59m (mu_X14_bar_b_7 σ  σ y7_1 y7_2)  y59_1  hy59_1  hI; omega)
                | succ d59 ih59 =>
                  intro y59_1 hy59_1 hI hmu59
                  have h := h_59 (mu_X14_bar_b_7 σ  σ y7_1 y7_2)  y59_1  hy59_1  hI
                  refine z_iload_n hC (pc := 59) 1 dX14_bar_59 rfl rfl ?_
                  refine z_aload_n hC (pc := 60) 0 dX14_bar_60 rfl rfl ?_
                  refine y_get hC (pc := 61) zf14 rOb_0 28 (v := iv (rF σ 0 28)) dX14_bar_61 zw2495 (rv_i (Or.inl rfl) rfl) (kk := ?_)
                  have h := h (hwf.f _ _)
                  obtain ⟨hT, hF⟩ := h
                  refine y_icmp_ge hC (pc := 64) 85 hy59_1 (hwf.f _ _) dX14_bar_64 (by decide) (fun c => ?_) (fun c => ?_)
                  · have h := hT c
                    refine z_iload_n hC (pc := 85) 1 dX14_bar_85 rfl rfl ?_
                    refine z_aload_n hC (pc := 86) 0 dX14_bar_86 rfl rfl ?_
                    refine y_get hC (pc := 87) zf14 rOb_0 28 (v := iv (rF σ 0 28)) dX14_bar_87 zw2495 (rv_i (Or.inl rfl) rfl) (kk := ?_)
                    obtain ⟨hT, hF⟩ := h
                    refine y_icmp_ge hC (pc := 90) 108 hy59_1 (hwf.f _ _) dX14_bar_90 (by decide) (fun c => ?_) (fun c => ?_)
                    · have h := hT c
                      refine z_iconst hC (pc := 108) (v := Int32.ofInt 0) dX14_bar_108 (by decide) ?_
                      refine z_istore_n hC (pc := 109) (lv' := [(2, iv 0), (0, .ref (κ 0)), (1, iv y59_1)]) dX14_bar_109 rfl (by decide) rfl ?_
                      refine z_iload_n hC (pc := 110) 0 dX14_bar_110 rfl rfl ?_
                      refine y_if_eq hC (pc := 111) 117 (r_lit rfl) dX14_bar_111 (by decide) (fun _ => ?_) (fun c => absurd c (by decide))
                      refine z_goto hC (pc := 117) 7 dX14_bar_117 (by decide) ?_
                      refine z_lvs [1, 2, 0] rfl ?_
                      obtain ⟨hI, hm⟩ := h
                      exact ih7  y59_1 0  hy59_1 (r_lit rfl)  hI (by omega)
                    · have h := hF c
                      refine z_aload_n hC (pc := 93) 0 dX14_bar_93 rfl rfl ?_
                      refine y_get hC (pc := 94) zf14 rOb_0 26 (v := .ref (κ 1026)) dX14_bar_94 zw2493 (rv_c rfl) (kk := ?_)
                      refine z_iload_n hC (pc := 97) 1 dX14_bar_97 rfl rfl ?_
                      obtain ⟨b11, h⟩ := h
                      refine y_bald hC (pc := 98) (rAr_m rfl) dX14_bar_98 b11 (v := (rA σ 1026 y59_1)) rfl (kk := ?_)
                      have h := h (hwf.a _ _)
                      refine z_bipush hC (pc := 99) (v := Int32.ofInt 44) dX14_bar_99 (by decide) ?_
                      obtain ⟨hT, hF⟩ := h
                      refine y_icmp_ne hC (pc := 101) 108 (hwf.a _ _) (r_lit rfl) dX14_bar_101 (by decide) (fun c => ?_) (fun c => ?_)
                      · have h := hT c
                        refine z_iconst hC (pc := 108) (v := Int32.ofInt 0) dX14_bar_108 (by decide) ?_
                        refine z_istore_n hC (pc := 109) (lv' := [(2, iv 0), (0, .ref (κ 0)), (1, iv y59_1)]) dX14_bar_109 rfl (by decide) rfl ?_
                        refine z_iload_n hC (pc := 110) 0 dX14_bar_110 rfl rfl ?_
                        refine y_if_eq hC (pc := 111) 117 (r_lit rfl) dX14_bar_111 (by decide) (fun _ => ?_) (fun c => absurd c (by decide))
                        refine z_goto hC (pc := 117) 7 dX14_bar_117 (by decide) ?_
                        refine z_lvs [1, 2, 0] rfl ?_
                        obtain ⟨hI, hm⟩ := h
                        exact ih7  y59_1 0  hy59_1 (r_lit rfl)  hI (by omega)
                      · have h := hF c
                        refine z_iconst hC (pc := 104) (v := Int32.ofInt 1) dX14_bar_104 (by decide) ?_
                        refine z_goto hC (pc := 105) 109 dX14_bar_105 (by decide) ?_
                        refine z_istore_n hC (pc := 109) (lv' := [(2, iv 1), (0, .ref (κ 0)), (1, iv y59_1)]) dX14_bar_109 rfl (by decide) rfl ?_
                        refine z_iload_n hC (pc := 110) 0 dX14_bar_110 rfl rfl ?_
                        refine y_if_eq hC (pc := 111) 117 (r_lit rfl) dX14_bar_111 (by decide) (fun c => absurd c (by decide)) (fun _ => ?_)
                        refine y_iinc hC (pc := 114) (v := (y59_1 + 1)) (lv' := [(1, iv (y59_1 + 1)), (2, iv 1), (0, .ref (κ 0))]) 2 dX14_bar_114 rfl rfl (by decide) rfl ?_
                        refine z_goto hC (pc := 117) 7 dX14_bar_117 (by decide) ?_
                        refine z_lvs [2, 0, 1] rfl ?_
                        obtain ⟨r12, h⟩ := h
                        obtain ⟨hI, hm⟩ := h
                        exact ih7  (y59_1 + 1) 1  r12 (r_lit rfl)  hI (by omega)
                  · have h := hF c
                    refine z_aload_n hC (pc := 67) 0 dX14_bar_67 rfl rfl ?_
                    refine y_get hC (pc := 68) zf14 rOb_0 26 (v := .ref (κ 1026)) dX14_bar_68 zw2493 (rv_c rfl) (kk := ?_)
                    refine z_iload_n hC (pc := 71) 1 dX14_bar_71 rfl rfl ?_
                    obtain ⟨b13, h⟩ := h
                    refine y_bald hC (pc := 72) (rAr_m rfl) dX14_bar_72 b13 (v := (rA σ 1026 y59_1)) rfl (kk := ?_)
                    have h := h (hwf.a _ _)
                    obtain ⟨p14, h⟩ := h
                    refine y_callSi hC (pc := 73) (As := [iv (rA σ 1026 y59_1)]) (kX14_isBlank l G κ σ (rA σ 1026 y59_1) hwf (hwf.a _ _) p14) dmX14_isBlank dX14_bar_73 zw2997 rfl rfl (Nat.le_of_ble_eq_true rfl) (Nat.le_of_ble_eq_true rfl) (Nat.le_of_ble_eq_true rfl) (Nat.le_of_ble_eq_true rfl) (Nat.le_of_ble_eq_true rfl) (kk := fun v73 s73 hv73 Ws73 qs73 => ?_)
                    obtain ⟨es73, qs73⟩ := qs73
                    have es73 := es73.symm
                    subst es73
                    have h := h v73 hv73 qs73
                    obtain ⟨hT, hF⟩ := h
                    refine y_if_eq hC (pc := 76) 85 hv73 dX14_bar_76 (by decide) (fun c => ?_) (fun c => ?_)
                    · have h := hT c
                      refine z_iload_n hC (pc := 85) 1 dX14_bar_85 rfl rfl ?_
                      refine z_aload_n hC (pc := 86) 0 dX14_bar_86 rfl rfl ?_
                      refine y_get hC (pc := 87) zf14 rOb_0 28 (v := iv (rF σ 0 28)) dX14_bar_87 zw2495 (rv_i (Or.inl rfl) rfl) (kk := ?_)
                      obtain ⟨hT, hF⟩ := h
                      refine y_icmp_ge hC (pc := 90) 108 hy59_1 (hwf.f _ _) dX14_bar_90 (by decide) (fun c => ?_) (fun c => ?_)
                      · have h := hT c
                        refine z_iconst hC (pc := 108) (v := Int32.ofInt 0) dX14_bar_108 (by decide) ?_
                        refine z_istore_n hC (pc := 109) (lv' := [(2, iv 0), (0, .ref (κ 0)), (1, iv y59_1)]) dX14_bar_109 rfl (by decide) rfl ?_
                        refine z_iload_n hC (pc := 110) 0 dX14_bar_110 rfl rfl ?_
                        refine y_if_eq hC (pc := 111) 117 (r_lit rfl) dX14_bar_111 (by decide) (fun _ => ?_) (fun c => absurd c (by decide))
                        refine z_goto hC (pc := 117) 7 dX14_bar_117 (by decide) ?_
                        refine z_lvs [1, 2, 0] rfl ?_
                        obtain ⟨hI, hm⟩ := h
                        exact ih7  y59_1 0  hy59_1 (r_lit rfl)  hI (by omega)
                      · have h := hF c
                        refine z_aload_n hC (pc := 93) 0 dX14_bar_93 rfl rfl ?_
                        refine y_get hC (pc := 94) zf14 rOb_0 26 (v := .ref (κ 1026)) dX14_bar_94 zw2493 (rv_c rfl) (kk := ?_)
                        refine z_iload_n hC (pc := 97) 1 dX14_bar_97 rfl rfl ?_
                        obtain ⟨b15, h⟩ := h
                        refine y_bald hC (pc := 98) (rAr_m rfl) dX14_bar_98 b15 (v := (rA σ 1026 y59_1)) rfl (kk := ?_)
                        refine z_bipush hC (pc := 99) (v := Int32.ofInt 44) dX14_bar_99 (by decide) ?_
                        obtain ⟨hT, hF⟩ := h
                        refine y_icmp_ne hC (pc := 101) 108 (hwf.a _ _) (r_lit rfl) dX14_bar_101 (by decide) (fun c => ?_) (fun c => ?_)
                        · have h := hT c
                          refine z_iconst hC (pc := 108) (v := Int32.ofInt 0) dX14_bar_108 (by decide) ?_
                          refine z_istore_n hC (pc := 109) (lv' := [(2, iv 0), (0, .ref (κ 0)), (1, iv y59_1)]) dX14_bar_109 rfl (by decide) rfl ?_
                          refine z_iload_n hC (pc := 110) 0 dX14_bar_110 rfl rfl ?_
                          refine y_if_eq hC (pc := 111) 117 (r_lit rfl) dX14_bar_111 (by decide) (fun _ => ?_) (fun c => absurd c (by decide))
                          refine z_goto hC (pc := 117) 7 dX14_bar_117 (by decide) ?_
                          refine z_lvs [1, 2, 0] rfl ?_
                          obtain ⟨hI, hm⟩ := h
                          exact ih7  y59_1 0  hy59_1 (r_lit rfl)  hI (by omega)
                        · have h := hF c
                          refine z_iconst hC (pc := 104) (v := Int32.ofInt 1) dX14_bar_104 (by decide) ?_
                          refine z_goto hC (pc := 105) 109 dX14_bar_105 (by decide) ?_
                          refine z_istore_n hC (pc := 109) (lv' := [(2, iv 1), (0, .ref (κ 0)), (1, iv y59_1)]) dX14_bar_109 rfl (by decide) rfl ?_
                          refine z_iload_n hC (pc := 110) 0 dX14_bar_110 rfl rfl ?_
                          refine y_if_eq hC (pc := 111) 117 (r_lit rfl) dX14_bar_111 (by decide) (fun c => absurd c (by decide)) (fun _ => ?_)
                          refine y_iinc hC (pc := 114) (v := (y59_1 + 1)) (lv' := [(1, iv (y59_1 + 1)), (2, iv 1), (0, .ref (κ 0))]) 2 dX14_bar_114 rfl rfl (by decide) rfl ?_
                          refine z_goto hC (pc := 117) 7 dX14_bar_117 (by decide) ?_
                          refine z_lvs [2, 0, 1] rfl ?_
                          obtain ⟨r16, h⟩ := h
                          obtain ⟨hI, hm⟩ := h
                          exact ih7  (y59_1 + 1) 1  r16 (r_lit rfl)  hI (by omega)
                    · have h := hF c
                      refine y_iinc hC (pc := 79) (v := (y59_1 + 1)) (lv' := [(1, iv (y59_1 + 1)), (0, .ref (κ 0))]) 1 dX14_bar_79 rfl rfl (by decide) rfl ?_
                      refine z_goto hC (pc := 82) 59 dX14_bar_82 (by decide) ?_
                      refine z_lvs [1, 0] rfl ?_
                      obtain ⟨r17, h⟩ := h
                      obtain ⟨hI, hm⟩ := h
                      exact ih59  (y59_1 + 1)  r17  hI (by omega)
              refine z_lvs [2, 0] rfl ?_
              exact j59 _  v46  hv46  h (Nat.le_refl _)
            · have h := hF c
              refine z_iconst hC (pc := 55) (v := Int32.ofInt (-1)) dX14_bar_55 (by decide) ?_
              exact y_reti hR dX14_bar_56 rfl (r_lit rfl) hwf (Nat.le_of_ble_eq_true rfl) (Nat.le_of_ble_eq_true rfl) ⟨rfl, h⟩
          · have h := hF c
            refine z_aload_n hC (pc := 19) 0 dX14_bar_19 rfl rfl ?_
            refine y_get hC (pc := 20) zf14 rOb_0 26 (v := .ref (κ 1026)) dX14_bar_20 zw2493 (rv_c rfl) (kk := ?_)
            refine z_iload_n hC (pc := 23) 1 dX14_bar_23 rfl rfl ?_
            obtain ⟨b18, h⟩ := h
            refine y_bald hC (pc := 24) (rAr_m rfl) dX14_bar_24 b18 (v := (rA σ 1026 y11_1)) rfl (kk := ?_)
            have h := h (hwf.a _ _)
            obtain ⟨p19, h⟩ := h
            refine y_callSi hC (pc := 25) (As := [iv (rA σ 1026 y11_1)]) (kX14_isBlank l G κ σ (rA σ 1026 y11_1) hwf (hwf.a _ _) p19) dmX14_isBlank dX14_bar_25 zw2997 rfl rfl (Nat.le_of_ble_eq_true rfl) (Nat.le_of_ble_eq_true rfl) (Nat.le_of_ble_eq_true rfl) (Nat.le_of_ble_eq_true rfl) (Nat.le_of_ble_eq_true rfl) (kk := fun v25 s25 hv25 Ws25 qs25 => ?_)
            obtain ⟨es25, qs25⟩ := qs25
            have es25 := es25.symm
            subst es25
            have h := h v25 hv25 qs25
            obtain ⟨hT, hF⟩ := h
            refine y_if_eq hC (pc := 28) 37 hv25 dX14_bar_28 (by decide) (fun c => ?_) (fun c => ?_)
            · have h := hT c
              refine z_aload_n hC (pc := 37) 0 dX14_bar_37 rfl rfl ?_
              refine y_get hC (pc := 38) zf14 rOb_0 26 (v := .ref (κ 1026)) dX14_bar_38 zw2493 (rv_c rfl) (kk := ?_)
              refine z_aload_n hC (pc := 41) 0 dX14_bar_41 rfl rfl ?_
              refine y_get hC (pc := 42) zf14 rOb_0 28 (v := iv (rF σ 0 28)) dX14_bar_42 zw2495 (rv_i (Or.inl rfl) rfl) (kk := ?_)
              refine z_iload_n hC (pc := 45) 1 dX14_bar_45 rfl rfl ?_
              obtain ⟨p20, h⟩ := h
              refine y_callSi hC (pc := 46) (As := [.ref (κ 1026), iv (rF σ 0 28), iv y11_1]) (kX14_wordEnd_w l G κ σ 1026 4001 (rF σ 0 28) y11_1 hwf (rAr_m rfl) (hwf.f _ _) hy11_1 p20) dmX14_wordEnd dX14_bar_46 zw3009 rfl rfl (Nat.le_of_ble_eq_true rfl) (Nat.le_of_ble_eq_true rfl) (Nat.le_of_ble_eq_true rfl) (Nat.le_of_ble_eq_true rfl) (Nat.le_of_ble_eq_true rfl) (kk := fun v46 s46 hv46 Ws46 qs46 => ?_)
              obtain ⟨es46, qs46⟩ := qs46
              have es46 := es46.symm
              subst es46
              have h := h v46 hv46 qs46
              refine z_istore_n hC (pc := 49) (lv' := [(3, iv v46), (0, .ref (κ 0)), (1, iv y11_1)]) dX14_bar_49 rfl (by decide) rfl ?_
              refine z_iload_n hC (pc := 50) 0 dX14_bar_50 rfl rfl ?_
              refine z_iload_n hC (pc := 51) 2 dX14_bar_51 rfl rfl ?_
              obtain ⟨hT, hF⟩ := h
              refine y_icmp_ne hC (pc := 52) 57 hv46 hy11_1 dX14_bar_52 (by decide) (fun c => ?_) (fun c => ?_)
              · have h := hT c
                refine z_iload_n hC (pc := 57) 0 dX14_bar_57 rfl rfl ?_
                refine z_istore_n hC (pc := 58) (lv' := [(1, iv v46), (3, iv v46), (0, .ref (κ 0))]) dX14_bar_58 rfl (by decide) rfl ?_
                have j59 : ∀ (d59 : Nat), ∀ (y59_1 : Int), rng y59_1 → inv_X14_bar_b_59 σ (mu_X14_bar_b_7 σ σ y7_1 y7_2) σ y59_1 → (mu_X14_bar_b_59 σ  σ y59_1) ≤ d59 → zS X G 4 (rW G κ σ) [(0, .ref (κ 0)), (1, iv y59_1)] 0 0 59 [] := by
                  intro d59
                  induction d59 with
                  | zero =>
                    intro y59_1 hy59_1 hI hmu
                    exact absurd hmu (by have := h_59m (mu_X14_bar_b_7 σ  σ y7_1 y7_2)  y59_1  hy59_1  hI; omega)
                  | succ d59 ih59 =>
                    intro y59_1 hy59_1 hI hmu59
                    have h := h_59 (mu_X14_bar_b_7 σ  σ y7_1 y7_2)  y59_1  hy59_1  hI
                    refine z_iload_n hC (pc := 59) 1 dX14_bar_59 rfl rfl ?_
                    refine z_aload_n hC (pc := 60) 0 dX14_bar_60 rfl rfl ?_
                    refine y_get hC (pc := 61) zf14 rOb_0 28 (v := iv (rF σ 0 28)) dX14_bar_61 zw2495 (rv_i (Or.inl rfl) rfl) (kk := ?_)
                    have h := h (hwf.f _ _)
                    obtain ⟨hT, hF⟩ := h
                    refine y_icmp_ge hC (pc := 64) 85 hy59_1 (hwf.f _ _) dX14_bar_64 (by decide) (fun c => ?_) (fun c => ?_)
                    · have h := hT c
                      refine z_iload_n hC (pc := 85) 1 dX14_bar_85 rfl rfl ?_
                      refine z_aload_n hC (pc := 86) 0 dX14_bar_86 rfl rfl ?_
                      refine y_get hC (pc := 87) zf14 rOb_0 28 (v := iv (rF σ 0 28)) dX14_bar_87 zw2495 (rv_i (Or.inl rfl) rfl) (kk := ?_)
                      obtain ⟨hT, hF⟩ := h
                      refine y_icmp_ge hC (pc := 90) 108 hy59_1 (hwf.f _ _) dX14_bar_90 (by decide) (fun c => ?_) (fun c => ?_)
                      · have h := hT c
                        refine z_iconst hC (pc := 108) (v := Int32.ofInt 0) dX14_bar_108 (by decide) ?_
                        refine z_istore_n hC (pc := 109) (lv' := [(2, iv 0), (0, .ref (κ 0)), (1, iv y59_1)]) dX14_bar_109 rfl (by decide) rfl ?_
                        refine z_iload_n hC (pc := 110) 0 dX14_bar_110 rfl rfl ?_
                        refine y_if_eq hC (pc := 111) 117 (r_lit rfl) dX14_bar_111 (by decide) (fun _ => ?_) (fun c => absurd c (by decide))
                        refine z_goto hC (pc := 117) 7 dX14_bar_117 (by decide) ?_
                        refine z_lvs [1, 2, 0] rfl ?_
                        obtain ⟨hI, hm⟩ := h
                        exact ih7  y59_1 0  hy59_1 (r_lit rfl)  hI (by omega)
                      · have h := hF c
                        refine z_aload_n hC (pc := 93) 0 dX14_bar_93 rfl rfl ?_
                        refine y_get hC (pc := 94) zf14 rOb_0 26 (v := .ref (κ 1026)) dX14_bar_94 zw2493 (rv_c rfl) (kk := ?_)
                        refine z_iload_n hC (pc := 97) 1 dX14_bar_97 rfl rfl ?_
                        obtain ⟨b21, h⟩ := h
                        refine y_bald hC (pc := 98) (rAr_m rfl) dX14_bar_98 b21 (v := (rA σ 1026 y59_1)) rfl (kk := ?_)
                        have h := h (hwf.a _ _)
                        refine z_bipush hC (pc := 99) (v := Int32.ofInt 44) dX14_bar_99 (by decide) ?_
                        obtain ⟨hT, hF⟩ := h
                        refine y_icmp_ne hC (pc := 101) 108 (hwf.a _ _) (r_lit rfl) dX14_bar_101 (by decide) (fun c => ?_) (fun c => ?_)
                        · have h := hT c
                          refine z_iconst hC (pc := 108) (v := Int32.ofInt 0) dX14_bar_108 (by decide) ?_
                          refine z_istore_n hC (pc := 109) (lv' := [(2, iv 0), (0, .ref (κ 0)), (1, iv y59_1)]) dX14_bar_109 rfl (by decide) rfl ?_
                          refine z_iload_n hC (pc := 110) 0 dX14_bar_110 rfl rfl ?_
                          refine y_if_eq hC (pc := 111) 117 (r_lit rfl) dX14_bar_111 (by decide) (fun _ => ?_) (fun c => absurd c (by decide))
                          refine z_goto hC (pc := 117) 7 dX14_bar_117 (by decide) ?_
                          refine z_lvs [1, 2, 0] rfl ?_
                          obtain ⟨hI, hm⟩ := h
                          exact ih7  y59_1 0  hy59_1 (r_lit rfl)  hI (by omega)
                        · have h := hF c
                          refine z_iconst hC (pc := 104) (v := Int32.ofInt 1) dX14_bar_104 (by decide) ?_
                          refine z_goto hC (pc := 105) 109 dX14_bar_105 (by decide) ?_
                          refine z_istore_n hC (pc := 109) (lv' := [(2, iv 1), (0, .ref (κ 0)), (1, iv y59_1)]) dX14_bar_109 rfl (by decide) rfl ?_
                          refine z_iload_n hC (pc := 110) 0 dX14_bar_110 rfl rfl ?_
                          refine y_if_eq hC (pc := 111) 117 (r_lit rfl) dX14_bar_111 (by decide) (fun c => absurd c (by decide)) (fun _ => ?_)
                          refine y_iinc hC (pc := 114) (v := (y59_1 + 1)) (lv' := [(1, iv (y59_1 + 1)), (2, iv 1), (0, .ref (κ 0))]) 2 dX14_bar_114 rfl rfl (by decide) rfl ?_
                          refine z_goto hC (pc := 117) 7 dX14_bar_117 (by decide) ?_
                          refine z_lvs [2, 0, 1] rfl ?_
                          obtain ⟨r22, h⟩ := h
                          obtain ⟨hI, hm⟩ := h
                          exact ih7  (y59_1 + 1) 1  r22 (r_lit rfl)  hI (by omega)
                    · have h := hF c
                      refine z_aload_n hC (pc := 67) 0 dX14_bar_67 rfl rfl ?_
                      refine y_get hC (pc := 68) zf14 rOb_0 26 (v := .ref (κ 1026)) dX14_bar_68 zw2493 (rv_c rfl) (kk := ?_)
                      refine z_iload_n hC (pc := 71) 1 dX14_bar_71 rfl rfl ?_
                      obtain ⟨b23, h⟩ := h
                      refine y_bald hC (pc := 72) (rAr_m rfl) dX14_bar_72 b23 (v := (rA σ 1026 y59_1)) rfl (kk := ?_)
                      have h := h (hwf.a _ _)
                      obtain ⟨p24, h⟩ := h
                      refine y_callSi hC (pc := 73) (As := [iv (rA σ 1026 y59_1)]) (kX14_isBlank l G κ σ (rA σ 1026 y59_1) hwf (hwf.a _ _) p24) dmX14_isBlank dX14_bar_73 zw2997 rfl rfl (Nat.le_of_ble_eq_true rfl) (Nat.le_of_ble_eq_true rfl) (Nat.le_of_ble_eq_true rfl) (Nat.le_of_ble_eq_true rfl) (Nat.le_of_ble_eq_true rfl) (kk := fun v73 s73 hv73 Ws73 qs73 => ?_)
                      obtain ⟨es73, qs73⟩ := qs73
                      have es73 := es73.symm
                      subst es73
                      have h := h v73 hv73 qs73
                      obtain ⟨hT, hF⟩ := h
                      refine y_if_eq hC (pc := 76) 85 hv73 dX14_bar_76 (by decide) (fun c => ?_) (fun c => ?_)
                      · have h := hT c
                        refine z_iload_n hC (pc := 85) 1 dX14_bar_85 rfl rfl ?_
                        refine z_aload_n hC (pc := 86) 0 dX14_bar_86 rfl rfl ?_
                        refine y_get hC (pc := 87) zf14 rOb_0 28 (v := iv (rF σ 0 28)) dX14_bar_87 zw2495 (rv_i (Or.inl rfl) rfl) (kk := ?_)
                        obtain ⟨hT, hF⟩ := h
                        refine y_icmp_ge hC (pc := 90) 108 hy59_1 (hwf.f _ _) dX14_bar_90 (by decide) (fun c => ?_) (fun c => ?_)
                        · have h := hT c
                          refine z_iconst hC (pc := 108) (v := Int32.ofInt 0) dX14_bar_108 (by decide) ?_
                          refine z_istore_n hC (pc := 109) (lv' := [(2, iv 0), (0, .ref (κ 0)), (1, iv y59_1)]) dX14_bar_109 rfl (by decide) rfl ?_
                          refine z_iload_n hC (pc := 110) 0 dX14_bar_110 rfl rfl ?_
                          refine y_if_eq hC (pc := 111) 117 (r_lit rfl) dX14_bar_111 (by decide) (fun _ => ?_) (fun c => absurd c (by decide))
                          refine z_goto hC (pc := 117) 7 dX14_bar_117 (by decide) ?_
                          refine z_lvs [1, 2, 0] rfl ?_
                          obtain ⟨hI, hm⟩ := h
                          exact ih7  y59_1 0  hy59_1 (r_lit rfl)  hI (by omega)
                        · have h := hF c
                          refine z_aload_n hC (pc := 93) 0 dX14_bar_93 rfl rfl ?_
                          refine y_get hC (pc := 94) zf14 rOb_0 26 (v := .ref (κ 1026)) dX14_bar_94 zw2493 (rv_c rfl) (kk := ?_)
                          refine z_iload_n hC (pc := 97) 1 dX14_bar_97 rfl rfl ?_
                          obtain ⟨b25, h⟩ := h
                          refine y_bald hC (pc := 98) (rAr_m rfl) dX14_bar_98 b25 (v := (rA σ 1026 y59_1)) rfl (kk := ?_)
                          refine z_bipush hC (pc := 99) (v := Int32.ofInt 44) dX14_bar_99 (by decide) ?_
                          obtain ⟨hT, hF⟩ := h
                          refine y_icmp_ne hC (pc := 101) 108 (hwf.a _ _) (r_lit rfl) dX14_bar_101 (by decide) (fun c => ?_) (fun c => ?_)
                          · have h := hT c
                            refine z_iconst hC (pc := 108) (v := Int32.ofInt 0) dX14_bar_108 (by decide) ?_
                            refine z_istore_n hC (pc := 109) (lv' := [(2, iv 0), (0, .ref (κ 0)), (1, iv y59_1)]) dX14_bar_109 rfl (by decide) rfl ?_
                            refine z_iload_n hC (pc := 110) 0 dX14_bar_110 rfl rfl ?_
                            refine y_if_eq hC (pc := 111) 117 (r_lit rfl) dX14_bar_111 (by decide) (fun _ => ?_) (fun c => absurd c (by decide))
                            refine z_goto hC (pc := 117) 7 dX14_bar_117 (by decide) ?_
                            refine z_lvs [1, 2, 0] rfl ?_
                            obtain ⟨hI, hm⟩ := h
                            exact ih7  y59_1 0  hy59_1 (r_lit rfl)  hI (by omega)
                          · have h := hF c
                            refine z_iconst hC (pc := 104) (v := Int32.ofInt 1) dX14_bar_104 (by decide) ?_
                            refine z_goto hC (pc := 105) 109 dX14_bar_105 (by decide) ?_
                            refine z_istore_n hC (pc := 109) (lv' := [(2, iv 1), (0, .ref (κ 0)), (1, iv y59_1)]) dX14_bar_109 rfl (by decide) rfl ?_
                            refine z_iload_n hC (pc := 110) 0 dX14_bar_110 rfl rfl ?_
                            refine y_if_eq hC (pc := 111) 117 (r_lit rfl) dX14_bar_111 (by decide) (fun c => absurd c (by decide)) (fun _ => ?_)
                            refine y_iinc hC (pc := 114) (v := (y59_1 + 1)) (lv' := [(1, iv (y59_1 + 1)), (2, iv 1), (0, .ref (κ 0))]) 2 dX14_bar_114 rfl rfl (by decide) rfl ?_
                            refine z_goto hC (pc := 117) 7 dX14_bar_117 (by decide) ?_
                            refine z_lvs [2, 0, 1] rfl ?_
                            obtain ⟨r26, h⟩ := h
                            obtain ⟨hI, hm⟩ := h
                            exact ih7  (y59_1 + 1) 1  r26 (r_lit rfl)  hI (by omega)
                      · have h := hF c
                        refine y_iinc hC (pc := 79) (v := (y59_1 + 1)) (lv' := [(1, iv (y59_1 + 1)), (0, .ref (κ 0))]) 1 dX14_bar_79 rfl rfl (by decide) rfl ?_
                        refine z_goto hC (pc := 82) 59 dX14_bar_82 (by decide) ?_
                        refine z_lvs [1, 0] rfl ?_
                        obtain ⟨r27, h⟩ := h
                        obtain ⟨hI, hm⟩ := h
                        exact ih59  (y59_1 + 1)  r27  hI (by omega)
                refine z_lvs [2, 0] rfl ?_
                exact j59 _  v46  hv46  h (Nat.le_refl _)
              · have h := hF c
                refine z_iconst hC (pc := 55) (v := Int32.ofInt (-1)) dX14_bar_55 (by decide) ?_
                exact y_reti hR dX14_bar_56 rfl (r_lit rfl) hwf (Nat.le_of_ble_eq_true rfl) (Nat.le_of_ble_eq_true rfl) ⟨rfl, h⟩
            · have h := hF c
              refine y_iinc hC (pc := 31) (v := (y11_1 + 1)) (lv' := [(1, iv (y11_1 + 1)), (0, .ref (κ 0))]) 1 dX14_bar_31 rfl rfl (by decide) rfl ?_
              refine z_goto hC (pc := 34) 11 dX14_bar_34 (by decide) ?_
              refine z_lvs [1, 0] rfl ?_
              obtain ⟨r28, h⟩ := h
              obtain ⟨hI, hm⟩ := h
              exact ih11  (y11_1 + 1)  r28  hI (by omega)
      obtain ⟨hT, hF⟩ := h
      refine y_if_eq hC (pc := 8) 120 hy7_2 dX14_bar_8 (by decide) (fun c => ?_) (fun c => ?_)
      · have h := hT c
        refine z_iload_n hC (pc := 120) 1 dX14_bar_120 rfl rfl ?_
        refine z_aload_n hC (pc := 121) 0 dX14_bar_121 rfl rfl ?_
        refine y_get hC (pc := 122) zf14 rOb_0 28 (v := iv (rF σ 0 28)) dX14_bar_122 zw2495 (rv_i (Or.inl rfl) rfl) (kk := ?_)
        have h := h (hwf.f _ _)
        obtain ⟨hT, hF⟩ := h
        refine y_icmp_ge hC (pc := 125) 143 hy7_1 (hwf.f _ _) dX14_bar_125 (by decide) (fun c => ?_) (fun c => ?_)
        · have h := hT c
          refine z_iconst hC (pc := 143) (v := Int32.ofInt (-1)) dX14_bar_143 (by decide) ?_
          exact y_reti hR dX14_bar_144 rfl (r_lit rfl) hwf (Nat.le_of_ble_eq_true rfl) (Nat.le_of_ble_eq_true rfl) ⟨rfl, h⟩
        · have h := hF c
          refine z_aload_n hC (pc := 128) 0 dX14_bar_128 rfl rfl ?_
          refine y_get hC (pc := 129) zf14 rOb_0 26 (v := .ref (κ 1026)) dX14_bar_129 zw2493 (rv_c rfl) (kk := ?_)
          refine z_iload_n hC (pc := 132) 1 dX14_bar_132 rfl rfl ?_
          obtain ⟨b29, h⟩ := h
          refine y_bald hC (pc := 133) (rAr_m rfl) dX14_bar_133 b29 (v := (rA σ 1026 y7_1)) rfl (kk := ?_)
          have h := h (hwf.a _ _)
          refine z_bipush hC (pc := 134) (v := Int32.ofInt 124) dX14_bar_134 (by decide) ?_
          obtain ⟨hT, hF⟩ := h
          refine y_icmp_ne hC (pc := 136) 143 (hwf.a _ _) (r_lit rfl) dX14_bar_136 (by decide) (fun c => ?_) (fun c => ?_)
          · have h := hT c
            refine z_iconst hC (pc := 143) (v := Int32.ofInt (-1)) dX14_bar_143 (by decide) ?_
            exact y_reti hR dX14_bar_144 rfl (r_lit rfl) hwf (Nat.le_of_ble_eq_true rfl) (Nat.le_of_ble_eq_true rfl) ⟨rfl, h⟩
          · have h := hF c
            refine z_iload_n hC (pc := 139) 1 dX14_bar_139 rfl rfl ?_
            refine z_goto hC (pc := 140) 144 dX14_bar_140 (by decide) ?_
            exact y_reti hR dX14_bar_144 rfl hy7_1 hwf (Nat.le_of_ble_eq_true rfl) (Nat.le_of_ble_eq_true rfl) ⟨rfl, h⟩
      · have h := hF c
        refine z_lvs [0, 1] rfl ?_
        exact j11 _  y7_1  hy7_1  h (Nat.le_refl _)
  refine z_lvs [2, 1, 0] rfl ?_
  exact j7 _  (rF σ 0 29) 1  (hwf.f _ _) (r_lit rfl)  h (Nat.le_refl _)
theorem kX14_bar_b (l : Launch) (G : zG) (κ : Nat → Nat) (σ : rS) (hwf : rWF σ) (hp : pre_X14_bar_b σ ) : rMi l G κ yX14_bar cX14_bar 4 .int 3 43 [.ref (κ 0)] σ (fun x s => s = σ ∧ post_X14_bar_b σ x) := wX14_bar_b l G κ σ hwf (post_X14_bar_b σ ) (vX14_bar_b σ hwf hp) (vX14_bar_b_59 σ hwf hp) (vX14_bar_b_59m σ hwf hp) (vX14_bar_b_11 σ hwf hp) (vX14_bar_b_11m σ hwf hp) (vX14_bar_b_7 σ hwf hp) (vX14_bar_b_7m σ hwf hp)
