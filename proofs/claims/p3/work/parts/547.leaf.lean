theorem Im.i {P Q : Prop} (h : P → Q) : Im P Q := h
def pre_X14_wordEnd_t (σ : rS) (p0 n0 : Nat) (x1 : Int) (x2 : Int) : Prop := 0 ≤ x2 ∧ x1 ≤ n0 ∧ x1 ≤ 100000
def post_X14_wordEnd_t (σ : rS) (p0 n0 : Nat) (x1 : Int) (x2 : Int) (r : Int) : Prop := x2 ≤ r ∧ (r ≤ x1 ∨ r = x2) ∧ Im (x2 < r) (x2 < x1 ∧ LTp (rA σ p0 x2)) ∧ Im (x2 < x1 ∧ LTp (rA σ p0 x2)) (x2 < r)
def inv_X14_wordEnd_t_16 (σ : rS) (p0 n0 : Nat) (x1 : Int) (x2 : Int)  (s : rS) (k : Int) : Prop := x2 ≤ k ∧ (k ≤ x1 ∨ k = x2) ∧ x2 < x1 ∧ LTp (rA σ p0 x2)
def mu_X14_wordEnd_t_16 (σ : rS) (p0 n0 : Nat) (x1 : Int) (x2 : Int) (s : rS) (k : Int) : Nat := (1 + (x1 - k).toNat)
def VC_X14_wordEnd_t (σ : rS) (p0 n0 : Nat) (x1 : Int) (x2 : Int) (Q : Int → Prop) : Prop := ((x1 ≤ x2 → Q x2) ∧ (¬ x1 ≤ x2 → (0 ≤ x2 ∧ x2 < n0) ∧ (rng (rA σ p0 x2) → pre_X14_isLetter σ (rA σ p0 x2) ∧ (∀ (v10 : Int), rng v10 → post_X14_isLetter σ (rA σ p0 x2) v10 → ((v10 = 0 → Q x2) ∧ (¬ v10 = 0 → (inv_X14_wordEnd_t_16 σ p0 n0 x1 x2 σ x2)))))))
def VC_X14_wordEnd_t_16 (σ : rS) (p0 n0 : Nat) (x1 : Int) (x2 : Int) (Q : Int → Prop) : Prop := ∀ (y16_3 : Int), rng y16_3 → inv_X14_wordEnd_t_16 σ p0 n0 x1 x2 σ y16_3 → (((x1 ≤ y16_3 → Q y16_3) ∧ (¬ x1 ≤ y16_3 → (0 ≤ y16_3 ∧ y16_3 < n0) ∧ (rng (rA σ p0 y16_3) → pre_X14_isLetter σ (rA σ p0 y16_3) ∧ (∀ (v24 : Int), rng v24 → post_X14_isLetter σ (rA σ p0 y16_3) v24 → ((¬ v24 = 0 → rng (y16_3 + 1) ∧ (inv_X14_wordEnd_t_16 σ p0 n0 x1 x2 σ (y16_3 + 1) ∧ (mu_X14_wordEnd_t_16 σ p0 n0 x1 x2 σ (y16_3 + 1)) < (mu_X14_wordEnd_t_16 σ p0 n0 x1 x2 σ y16_3))) ∧ (v24 = 0 → (0 ≤ y16_3 ∧ y16_3 < n0) ∧ pre_X14_isDigit σ (rA σ p0 y16_3) ∧ (∀ (v33 : Int), rng v33 → post_X14_isDigit σ (rA σ p0 y16_3) v33 → ((v33 = 0 → Q y16_3) ∧ (¬ v33 = 0 → rng (y16_3 + 1) ∧ (inv_X14_wordEnd_t_16 σ p0 n0 x1 x2 σ (y16_3 + 1) ∧ (mu_X14_wordEnd_t_16 σ p0 n0 x1 x2 σ (y16_3 + 1)) < (mu_X14_wordEnd_t_16 σ p0 n0 x1 x2 σ y16_3))))))))))))
def VC_X14_wordEnd_t_16m (σ : rS) (p0 n0 : Nat) (x1 : Int) (x2 : Int) : Prop := ∀ (y16_3 : Int), rng y16_3 → inv_X14_wordEnd_t_16 σ p0 n0 x1 x2 σ y16_3 → 0 < (mu_X14_wordEnd_t_16 σ p0 n0 x1 x2 σ y16_3)
set_option maxHeartbeats 20000000 in
theorem vX14_wordEnd_t (σ : rS) (p0 n0 : Nat) (x1 : Int) (x2 : Int) (hwf : rWF σ) (ha0 : rAr 3 n0 p0) (hx1 : rng x1) (hx2 : rng x2) (hp : pre_X14_wordEnd_t σ p0 n0 x1 x2) : VC_X14_wordEnd_t σ p0 n0 x1 x2 (post_X14_wordEnd_t σ p0 n0 x1 x2) := by
  unfold pre_X14_wordEnd_t at hp
  obtain ⟨hp_1, hp_2, hp_3⟩ := hp
  unfold rng at hx1 hx2
  unfold VC_X14_wordEnd_t
  refine ⟨fun c4 => ?_, fun c4 => ?_⟩
  · exact (by (try simp only [post_X14_wordEnd_t]); (all_goals (repeat' (first | with_reducible intro _ | with_reducible apply And.intro))); all_goals (first | assumption | trivial | omega | (have zz_ := fz_z (by assumption); omega) | (split <;> omega) | grind (splits := 20) [LTp, Im]))
  · refine ⟨(by (all_goals (repeat' (first | with_reducible intro _ | with_reducible apply And.intro))); all_goals (first | assumption | trivial | omega | (have zz_ := fz_z (by assumption); omega) | (split <;> omega) | grind (splits := 20) [LTp, Im])), ?_⟩
    intro hr_; unfold rng at hr_
    refine ⟨(by (try simp only [pre_X14_isLetter]); (all_goals (repeat' (first | with_reducible intro _ | with_reducible apply And.intro))); all_goals (first | assumption | trivial | omega | (have zz_ := fz_z (by assumption); omega) | (split <;> omega) | grind (splits := 20) [LTp, Im])), ?_⟩
    intro v10 hv10 q10
    unfold rng at hv10
    unfold post_X14_isLetter at q10
    obtain ⟨q10_1, q10_2⟩ := q10
    refine ⟨fun c13 => ?_, fun c13 => ?_⟩
    · exact (by (try simp only [post_X14_wordEnd_t]); (all_goals (repeat' (first | with_reducible intro _ | with_reducible apply And.intro))); all_goals (first | assumption | trivial | omega | (have zz_ := fz_z (by assumption); omega) | (split <;> omega) | grind (splits := 20) [LTp, Im]))
    · exact (by (try simp only [inv_X14_wordEnd_t_16]); (all_goals (repeat' (first | with_reducible intro _ | with_reducible apply And.intro))); all_goals (first | assumption | trivial | omega | (have zz_ := fz_z (by assumption); omega) | (split <;> omega) | grind (splits := 20) [LTp, Im]))
set_option maxHeartbeats 20000000 in
theorem vX14_wordEnd_t_16 (σ : rS) (p0 n0 : Nat) (x1 : Int) (x2 : Int) (hwf : rWF σ) (ha0 : rAr 3 n0 p0) (hx1 : rng x1) (hx2 : rng x2) (hp : pre_X14_wordEnd_t σ p0 n0 x1 x2) : VC_X14_wordEnd_t_16 σ p0 n0 x1 x2 (post_X14_wordEnd_t σ p0 n0 x1 x2) := by
  unfold pre_X14_wordEnd_t at hp
  obtain ⟨hp_1, hp_2, hp_3⟩ := hp
  unfold rng at hx1 hx2
  unfold VC_X14_wordEnd_t_16
  intro y16_3 hy16_3 I16
  unfold inv_X14_wordEnd_t_16 at I16
  obtain ⟨I16_1, I16_2, I16_3, I16_4⟩ := I16
  refine ⟨fun c18 => ?_, fun c18 => ?_⟩
  · exact (by (try simp only [post_X14_wordEnd_t]); (all_goals (repeat' (first | with_reducible intro _ | with_reducible apply And.intro))); all_goals (first | assumption | trivial | omega | (have zz_ := fz_z (by assumption); omega) | (split <;> omega) | grind (splits := 20) [LTp, Im]))
  · refine ⟨(by (all_goals (repeat' (first | with_reducible intro _ | with_reducible apply And.intro))); all_goals (first | assumption | trivial | omega | (have zz_ := fz_z (by assumption); omega) | (split <;> omega) | grind (splits := 20) [LTp, Im])), ?_⟩
    intro hr_; unfold rng at hr_
    refine ⟨(by (try simp only [pre_X14_isLetter]); (all_goals (repeat' (first | with_reducible intro _ | with_reducible apply And.intro))); all_goals (first | assumption | trivial | omega | (have zz_ := fz_z (by assumption); omega) | (split <;> omega) | grind (splits := 20) [LTp, Im])), ?_⟩
    intro v24 hv24 q24
    unfold rng at hv24
    unfold post_X14_isLetter at q24
    obtain ⟨q24_1, q24_2⟩ := q24
    refine ⟨fun c27 => ?_, fun c27 => ?_⟩
    · refine ⟨(by (try simp only [rng]); (all_goals (repeat' (first | with_reducible intro _ | with_reducible apply And.intro))); all_goals (first | assumption | trivial | omega | (have zz_ := fz_z (by assumption); omega) | (split <;> omega) | grind (splits := 20) [LTp, Im])), ?_⟩
      exact (by (try simp only [inv_X14_wordEnd_t_16, mu_X14_wordEnd_t_16, mu_X14_wordEnd_t_16]); (all_goals (repeat' (first | with_reducible intro _ | with_reducible apply And.intro))); all_goals (first | assumption | trivial | omega | (have zz_ := fz_z (by assumption); omega) | (split <;> omega) | grind (splits := 20) [LTp, Im]))
    · refine ⟨(by (all_goals (repeat' (first | with_reducible intro _ | with_reducible apply And.intro))); all_goals (first | assumption | trivial | omega | (have zz_ := fz_z (by assumption); omega) | (split <;> omega) | grind (splits := 20) [LTp, Im])), ?_⟩
      refine ⟨(by (try simp only [pre_X14_isDigit]); (all_goals (repeat' (first | with_reducible intro _ | with_reducible apply And.intro))); all_goals (first | assumption | trivial | omega | (have zz_ := fz_z (by assumption); omega) | (split <;> omega) | grind (splits := 20) [LTp, Im])), ?_⟩
      intro v33 hv33 q33
      unfold rng at hv33
      unfold post_X14_isDigit at q33
      obtain ⟨q33_1, q33_2⟩ := q33
      refine ⟨fun c36 => ?_, fun c36 => ?_⟩
      · exact (by (try simp only [post_X14_wordEnd_t]); (all_goals (repeat' (first | with_reducible intro _ | with_reducible apply And.intro))); all_goals (first | assumption | trivial | omega | (have zz_ := fz_z (by assumption); omega) | (split <;> omega) | grind (splits := 20) [LTp, Im]))
      · refine ⟨(by (try simp only [rng]); (all_goals (repeat' (first | with_reducible intro _ | with_reducible apply And.intro))); all_goals (first | assumption | trivial | omega | (have zz_ := fz_z (by assumption); omega) | (split <;> omega) | grind (splits := 20) [LTp, Im])), ?_⟩
        exact (by (try simp only [inv_X14_wordEnd_t_16, mu_X14_wordEnd_t_16, mu_X14_wordEnd_t_16]); (all_goals (repeat' (first | with_reducible intro _ | with_reducible apply And.intro))); all_goals (first | assumption | trivial | omega | (have zz_ := fz_z (by assumption); omega) | (split <;> omega) | grind (splits := 20) [LTp, Im]))
set_option maxHeartbeats 20000000 in
theorem vX14_wordEnd_t_16m (σ : rS) (p0 n0 : Nat) (x1 : Int) (x2 : Int) (hwf : rWF σ) (ha0 : rAr 3 n0 p0) (hx1 : rng x1) (hx2 : rng x2) (hp : pre_X14_wordEnd_t σ p0 n0 x1 x2) : VC_X14_wordEnd_t_16m σ p0 n0 x1 x2 := by
  unfold pre_X14_wordEnd_t at hp
  obtain ⟨hp_1, hp_2, hp_3⟩ := hp
  unfold rng at hx1 hx2
  unfold VC_X14_wordEnd_t_16m
  (try simp only [inv_X14_wordEnd_t_16, mu_X14_wordEnd_t_16]); (all_goals (repeat' (first | with_reducible intro _ | with_reducible apply And.intro))); all_goals (first | assumption | omega | grind (splits := 20))
theorem wX14_wordEnd_t (l : Launch) (G : zG) (κ : Nat → Nat) (σ : rS) (p0 n0 : Nat) (x1 : Int) (x2 : Int) (hwf : rWF σ) (ha0 : rAr 3 n0 p0) (hx1 : rng x1) (hx2 : rng x2) (Q : Int → Prop) (h : VC_X14_wordEnd_t σ p0 n0 x1 x2 Q) (h_16 : VC_X14_wordEnd_t_16 σ p0 n0 x1 x2 Q) (h_16m : VC_X14_wordEnd_t_16m σ p0 n0 x1 x2) : rMi l G κ yX14_wordEnd cX14_wordEnd 4 .int 2 20 [.ref (κ p0), iv x1, iv x2] σ (fun x s => s = σ ∧ Q x) := by
  refine zMi.intro (by decide +kernel) (Nat.le_of_ble_eq_true rfl) (fun X hC hR => ?_)
  refine z_iload_n hC (pc := 0) 2 dX14_wordEnd_0 rfl rfl ?_
  refine z_istore_n hC (pc := 1) (lv' := [(3, iv x2), (0, .ref (κ p0)), (1, iv x1), (2, iv x2)]) dX14_wordEnd_1 rfl (by decide) rfl ?_
  refine z_iload_n hC (pc := 2) 0 dX14_wordEnd_2 rfl rfl ?_
  refine z_iload_n hC (pc := 3) 2 dX14_wordEnd_3 rfl rfl ?_
  obtain ⟨hT, hF⟩ := h
  refine y_icmp_ge hC (pc := 4) 45 hx2 hx1 dX14_wordEnd_4 (by decide) (fun c => ?_) (fun c => ?_)
  · have h := hT c
    refine z_iload_n hC (pc := 45) 0 dX14_wordEnd_45 rfl rfl ?_
    exact y_reti hR dX14_wordEnd_46 rfl hx2 hwf (Nat.le_of_ble_eq_true rfl) (Nat.le_of_ble_eq_true rfl) ⟨rfl, h⟩
  · have h := hF c
    refine z_aload_n hC (pc := 7) 1 dX14_wordEnd_7 rfl rfl ?_
    refine z_iload_n hC (pc := 8) 0 dX14_wordEnd_8 rfl rfl ?_
    obtain ⟨b10, h⟩ := h
    refine y_bald hC (pc := 9) ha0 dX14_wordEnd_9 b10 (v := (rA σ p0 x2)) rfl (kk := ?_)
    have h := h (hwf.a _ _)
    obtain ⟨p11, h⟩ := h
    refine y_callSi hC (pc := 10) (As := [iv (rA σ p0 x2)]) (kX14_isLetter l G κ σ (rA σ p0 x2) hwf (hwf.a _ _) p11) dmX14_isLetter dX14_wordEnd_10 zw3012 rfl rfl (Nat.le_of_ble_eq_true rfl) (Nat.le_of_ble_eq_true rfl) (Nat.le_of_ble_eq_true rfl) (Nat.le_of_ble_eq_true rfl) (Nat.le_of_ble_eq_true rfl) (kk := fun v10 s10 hv10 Ws10 qs10 => ?_)
    obtain ⟨es10, qs10⟩ := qs10
    have es10 := es10.symm
    subst es10
    have h := h v10 hv10 qs10
    have j16 : ∀ (d16 : Nat), ∀ (y16_3 : Int), rng y16_3 → inv_X14_wordEnd_t_16 σ p0 n0 x1 x2 σ y16_3 → (mu_X14_wordEnd_t_16 σ p0 n0 x1 x2 σ y16_3) ≤ d16 → zS X G 4 (rW G κ σ) [(0, .ref (κ p0)), (1, iv x1), (3, iv y16_3)] 0 0 16 [] := by
      intro d16
      induction d16 with
      | zero =>
        intro y16_3 hy16_3 hI hmu
        exact absurd hmu (by have := h_16m   y16_3  hy16_3  hI; omega)
      | succ d16 ih16 =>
        intro y16_3 hy16_3 hI hmu16
        have h := h_16   y16_3  hy16_3  hI
        refine z_iload_n hC (pc := 16) 2 dX14_wordEnd_16 rfl rfl ?_
        refine z_iload_n hC (pc := 17) 1 dX14_wordEnd_17 rfl rfl ?_
        obtain ⟨hT, hF⟩ := h
        refine y_icmp_ge hC (pc := 18) 45 hy16_3 hx1 dX14_wordEnd_18 (by decide) (fun c => ?_) (fun c => ?_)
        · have h := hT c
          refine z_iload_n hC (pc := 45) 2 dX14_wordEnd_45 rfl rfl ?_
          exact y_reti hR dX14_wordEnd_46 rfl hy16_3 hwf (Nat.le_of_ble_eq_true rfl) (Nat.le_of_ble_eq_true rfl) ⟨rfl, h⟩
        · have h := hF c
          refine z_aload_n hC (pc := 21) 0 dX14_wordEnd_21 rfl rfl ?_
          refine z_iload_n hC (pc := 22) 2 dX14_wordEnd_22 rfl rfl ?_
          obtain ⟨b12, h⟩ := h
          refine y_bald hC (pc := 23) ha0 dX14_wordEnd_23 b12 (v := (rA σ p0 y16_3)) rfl (kk := ?_)
          have h := h (hwf.a _ _)
          obtain ⟨p13, h⟩ := h
          refine y_callSi hC (pc := 24) (As := [iv (rA σ p0 y16_3)]) (kX14_isLetter l G κ σ (rA σ p0 y16_3) hwf (hwf.a _ _) p13) dmX14_isLetter dX14_wordEnd_24 zw3012 rfl rfl (Nat.le_of_ble_eq_true rfl) (Nat.le_of_ble_eq_true rfl) (Nat.le_of_ble_eq_true rfl) (Nat.le_of_ble_eq_true rfl) (Nat.le_of_ble_eq_true rfl) (kk := fun v24 s24 hv24 Ws24 qs24 => ?_)
          obtain ⟨es24, qs24⟩ := qs24
          have es24 := es24.symm
          subst es24
          have h := h v24 hv24 qs24
          obtain ⟨hT, hF⟩ := h
          refine y_if_ne hC (pc := 27) 39 hv24 dX14_wordEnd_27 (by decide) (fun c => ?_) (fun c => ?_)
          · have h := hT c
            refine y_iinc hC (pc := 39) (v := (y16_3 + 1)) (lv' := [(3, iv (y16_3 + 1)), (0, .ref (κ p0)), (1, iv x1)]) 2 dX14_wordEnd_39 rfl rfl (by decide) rfl ?_
            refine z_goto hC (pc := 42) 16 dX14_wordEnd_42 (by decide) ?_
            refine z_lvs [1, 2, 0] rfl ?_
            obtain ⟨r14, h⟩ := h
            obtain ⟨hI, hm⟩ := h
            exact ih16  (y16_3 + 1)  r14  hI (by omega)
          · have h := hF c
            refine z_aload_n hC (pc := 30) 0 dX14_wordEnd_30 rfl rfl ?_
            refine z_iload_n hC (pc := 31) 2 dX14_wordEnd_31 rfl rfl ?_
            obtain ⟨b15, h⟩ := h
            refine y_bald hC (pc := 32) ha0 dX14_wordEnd_32 b15 (v := (rA σ p0 y16_3)) rfl (kk := ?_)
            obtain ⟨p16, h⟩ := h
            refine y_callSi hC (pc := 33) (As := [iv (rA σ p0 y16_3)]) (kX14_isDigit l G κ σ (rA σ p0 y16_3) hwf (hwf.a _ _) p16) dmX14_isDigit dX14_wordEnd_33 zw3015 rfl rfl (Nat.le_of_ble_eq_true rfl) (Nat.le_of_ble_eq_true rfl) (Nat.le_of_ble_eq_true rfl) (Nat.le_of_ble_eq_true rfl) (Nat.le_of_ble_eq_true rfl) (kk := fun v33 s33 hv33 Ws33 qs33 => ?_)
            obtain ⟨es33, qs33⟩ := qs33
            have es33 := es33.symm
            subst es33
            have h := h v33 hv33 qs33
            obtain ⟨hT, hF⟩ := h
            refine y_if_eq hC (pc := 36) 45 hv33 dX14_wordEnd_36 (by decide) (fun c => ?_) (fun c => ?_)
            · have h := hT c
              refine z_iload_n hC (pc := 45) 2 dX14_wordEnd_45 rfl rfl ?_
              exact y_reti hR dX14_wordEnd_46 rfl hy16_3 hwf (Nat.le_of_ble_eq_true rfl) (Nat.le_of_ble_eq_true rfl) ⟨rfl, h⟩
            · have h := hF c
              refine y_iinc hC (pc := 39) (v := (y16_3 + 1)) (lv' := [(3, iv (y16_3 + 1)), (0, .ref (κ p0)), (1, iv x1)]) 2 dX14_wordEnd_39 rfl rfl (by decide) rfl ?_
              refine z_goto hC (pc := 42) 16 dX14_wordEnd_42 (by decide) ?_
              refine z_lvs [1, 2, 0] rfl ?_
              obtain ⟨r17, h⟩ := h
              obtain ⟨hI, hm⟩ := h
              exact ih16  (y16_3 + 1)  r17  hI (by omega)
    obtain ⟨hT, hF⟩ := h
    refine y_if_eq hC (pc := 13) 45 hv10 dX14_wordEnd_13 (by decide) (fun c => ?_) (fun c => ?_)
    · have h := hT c
      refine z_iload_n hC (pc := 45) 0 dX14_wordEnd_45 rfl rfl ?_
      exact y_reti hR dX14_wordEnd_46 rfl hx2 hwf (Nat.le_of_ble_eq_true rfl) (Nat.le_of_ble_eq_true rfl) ⟨rfl, h⟩
    · have h := hF c
      refine z_lvs [1, 2, 0] rfl ?_
      exact j16 _  x2  hx2  h (Nat.le_refl _)
theorem kX14_wordEnd_t (l : Launch) (G : zG) (κ : Nat → Nat) (σ : rS) (p0 n0 : Nat) (x1 : Int) (x2 : Int) (hwf : rWF σ) (ha0 : rAr 3 n0 p0) (hx1 : rng x1) (hx2 : rng x2) (hp : pre_X14_wordEnd_t σ p0 n0 x1 x2) : rMi l G κ yX14_wordEnd cX14_wordEnd 4 .int 2 20 [.ref (κ p0), iv x1, iv x2] σ (fun x s => s = σ ∧ post_X14_wordEnd_t σ p0 n0 x1 x2 x) := wX14_wordEnd_t l G κ σ p0 n0 x1 x2 hwf ha0 hx1 hx2 (post_X14_wordEnd_t σ p0 n0 x1 x2) (vX14_wordEnd_t σ p0 n0 x1 x2 hwf ha0 hx1 hx2 hp) (vX14_wordEnd_t_16 σ p0 n0 x1 x2 hwf ha0 hx1 hx2 hp) (vX14_wordEnd_t_16m σ p0 n0 x1 x2 hwf ha0 hx1 hx2 hp)
def pre_X14_isWord_t (σ : rS) (n1 : Nat) : Prop := 0 ≤ (rF σ 0 29) ∧ (rF σ 0 29) ≤ (rF σ 0 28) ∧ (rF σ 0 28) ≤ 4001
def post_X14_isWord_t (σ : rS) (n1 : Nat) (r : Int) : Prop := (r = 0 ∨ r = 1) ∧ (r = 1 → (rF σ 0 29) + (n1 : Int) ≤ (rF σ 0 28) ∨ n1 = 0) ∧ Im (r = 1 ∧ 0 < n1) ((rF σ 0 29) < (rF σ 0 28) ∧ LTp (rA σ 1026 ((rF σ 0 29))))
def VC_X14_isWord_t (σ : rS) (n1 : Nat) (Q : Int → Prop) : Prop := (rng (rF σ 0 29) → (rng (rF σ 0 28) → pre_X14_wordEnd_t σ 1026 4001 (rF σ 0 28) (rF σ 0 29) ∧ (∀ (v20 : Int), rng v20 → post_X14_wordEnd_t σ 1026 4001 (rF σ 0 28) (rF σ 0 29) v20 → pre_X14_is σ 1026 4001 (rF σ 0 29) v20 n1 ∧ (∀ (v24 : Int), rng v24 → post_X14_is σ 1026 4001 (rF σ 0 29) v20 n1 v24 → (v24 = 0 ∨ v24 = 1) ∧ Q v24))))
set_option maxHeartbeats 20000000 in
theorem vX14_isWord_t (σ : rS) (n1 : Nat) (hwf : rWF σ) (hs1 : n1 < 1000) (hp : pre_X14_isWord_t σ n1) : VC_X14_isWord_t σ n1 (post_X14_isWord_t σ n1) := by
  unfold pre_X14_isWord_t at hp
  obtain ⟨hp_1, hp_2, hp_3⟩ := hp
  unfold VC_X14_isWord_t
  intro hr_; unfold rng at hr_
  intro hr_; unfold rng at hr_
  refine ⟨(by (try simp only [pre_X14_wordEnd_t]); (all_goals (repeat' (first | with_reducible intro _ | with_reducible apply And.intro))); all_goals (first | assumption | trivial | omega | (have zz_ := fz_z (by assumption); omega) | (split <;> omega) | grind (splits := 20) [Im])), ?_⟩
  intro v20 hv20 q20
  unfold rng at hv20
  unfold post_X14_wordEnd_t at q20
  obtain ⟨q20_1, q20_2, q20_3, q20_4⟩ := q20
  refine ⟨(by (try simp only [pre_X14_is]); (all_goals (repeat' (first | with_reducible intro _ | with_reducible apply And.intro))); all_goals (first | assumption | trivial | omega | (have zz_ := fz_z (by assumption); omega) | (split <;> omega) | grind (splits := 20) [Im])), ?_⟩
  intro v24 hv24 q24
  unfold rng at hv24
  unfold post_X14_is at q24
  obtain ⟨q24_1, q24_2⟩ := q24
  refine ⟨(by (all_goals (repeat' (first | with_reducible intro _ | with_reducible apply And.intro))); all_goals (first | assumption | trivial | omega | (have zz_ := fz_z (by assumption); omega) | (split <;> omega) | grind (splits := 20) [Im])), ?_⟩
  exact (by (try simp only [post_X14_isWord_t]); (all_goals (repeat' (first | with_reducible intro _ | with_reducible apply And.intro))); all_goals (first | assumption | trivial | omega | (have zz_ := fz_z (by assumption); omega) | (split <;> omega) | grind (splits := 20) [Im]))
theorem wX14_isWord_t (l : Launch) (G : zG) (κ : Nat → Nat) (σ : rS) (t1 n1 : Nat) (hwf : rWF σ) (hs1 : rSt G t1 n1) (Q : Int → Prop) (h : VC_X14_isWord_t σ n1 Q) : rMi l G κ yX14_isWord cX14_isWord 2 .boolean 5 146 [.ref (κ 0), .ref t1] σ (fun x s => s = σ ∧ Q x) := by
  refine zMi.intro (by decide +kernel) (Nat.le_of_ble_eq_true rfl) (fun X hC hR => ?_)
  refine z_aload_n hC (pc := 0) 0 dX14_isWord_0 rfl rfl ?_
  refine y_get hC (pc := 1) zf14 rOb_0 26 (v := .ref (κ 1026)) dX14_isWord_1 zw2493 (rv_c rfl) (kk := ?_)
  refine z_aload_n hC (pc := 4) 0 dX14_isWord_4 rfl rfl ?_
  refine y_get hC (pc := 5) zf14 rOb_0 29 (v := iv (rF σ 0 29)) dX14_isWord_5 zw2496 (rv_i (Or.inl rfl) rfl) (kk := ?_)
  have h := h (hwf.f _ _)
  refine z_aload_n hC (pc := 8) 0 dX14_isWord_8 rfl rfl ?_
  refine y_get hC (pc := 9) zf14 rOb_0 26 (v := .ref (κ 1026)) dX14_isWord_9 zw2493 (rv_c rfl) (kk := ?_)
  refine z_aload_n hC (pc := 12) 0 dX14_isWord_12 rfl rfl ?_
  refine y_get hC (pc := 13) zf14 rOb_0 28 (v := iv (rF σ 0 28)) dX14_isWord_13 zw2495 (rv_i (Or.inl rfl) rfl) (kk := ?_)
  have h := h (hwf.f _ _)
  refine z_aload_n hC (pc := 16) 0 dX14_isWord_16 rfl rfl ?_
  refine y_get hC (pc := 17) zf14 rOb_0 29 (v := iv (rF σ 0 29)) dX14_isWord_17 zw2496 (rv_i (Or.inl rfl) rfl) (kk := ?_)
  obtain ⟨p10, h⟩ := h
  refine y_callSi hC (pc := 20) (As := [.ref (κ 1026), iv (rF σ 0 28), iv (rF σ 0 29)]) (kX14_wordEnd_t l G κ σ 1026 4001 (rF σ 0 28) (rF σ 0 29) hwf (rAr_m rfl) (hwf.f _ _) (hwf.f _ _) p10) dmX14_wordEnd dX14_isWord_20 zw3009 rfl rfl (Nat.le_of_ble_eq_true rfl) (Nat.le_of_ble_eq_true rfl) (Nat.le_of_ble_eq_true rfl) (Nat.le_of_ble_eq_true rfl) (Nat.le_of_ble_eq_true rfl) (kk := fun v20 s20 hv20 Ws20 qs20 => ?_)
  obtain ⟨es20, qs20⟩ := qs20
  have es20 := es20.symm
  subst es20
  have h := h v20 hv20 qs20
  refine z_aload_n hC (pc := 23) 1 dX14_isWord_23 rfl rfl ?_
  obtain ⟨p11, h⟩ := h
  refine y_callSi hC (pc := 24) (As := [.ref (κ 1026), iv (rF σ 0 29), iv v20, .ref t1]) (kX14_is l G κ σ 1026 4001 (rF σ 0 29) v20 t1 n1 hwf (rAr_m rfl) (hwf.f _ _) hv20 hs1 p11) dmX14_is dX14_isWord_24 zw3018 rfl rfl (Nat.le_of_ble_eq_true rfl) (Nat.le_of_ble_eq_true rfl) (Nat.le_of_ble_eq_true rfl) (Nat.le_of_ble_eq_true rfl) (Nat.le_of_ble_eq_true rfl) (kk := fun v24 s24 hv24 Ws24 qs24 => ?_)
  obtain ⟨es24, qs24⟩ := qs24
  have es24 := es24.symm
  subst es24
  have h := h v24 hv24 qs24
  obtain ⟨z12, h⟩ := h
  exact y_reti hR dX14_isWord_27 (r_nZ z12) hv24 hwf (Nat.le_of_ble_eq_true rfl) (Nat.le_of_ble_eq_true rfl) ⟨rfl, h⟩
theorem kX14_isWord_t (l : Launch) (G : zG) (κ : Nat → Nat) (σ : rS) (t1 n1 : Nat) (hwf : rWF σ) (hs1 : rSt G t1 n1) (hp : pre_X14_isWord_t σ n1) : rMi l G κ yX14_isWord cX14_isWord 2 .boolean 5 146 [.ref (κ 0), .ref t1] σ (fun x s => s = σ ∧ post_X14_isWord_t σ n1 x) := wX14_isWord_t l G κ σ t1 n1 hwf hs1 (post_X14_isWord_t σ n1) (vX14_isWord_t σ n1 hwf hs1.1 hp) 
def pre_X14_function_t (σ : rS)  : Prop := 0 ≤ (rF σ 0 29) ∧ (rF σ 0 29) ≤ (rF σ 0 28) ∧ (rF σ 0 28) ≤ 4001
def post_X14_function_t (σ : rS)  (r : Int) : Prop := -1 ≤ r ∧ r ≤ 8 ∧ Im (0 ≤ r) ((rF σ 0 29) < (rF σ 0 28) ∧ LTp (rA σ 1026 ((rF σ 0 29))))
def VC_X14_function_t (σ : rS) (Q : Int → Prop) : Prop := pre_X14_isWord_t σ 5 ∧ (∀ (v4 : Int), rng v4 → post_X14_isWord_t σ 5 v4 → ((v4 = 0 → pre_X14_isWord_t σ 4 ∧ (∀ (v18 : Int), rng v18 → post_X14_isWord_t σ 4 v18 → ((v18 = 0 → pre_X14_isWord_t σ 4 ∧ (∀ (v32 : Int), rng v32 → post_X14_isWord_t σ 4 v32 → ((v32 = 0 → pre_X14_isWord_t σ 5 ∧ (∀ (v46 : Int), rng v46 → post_X14_isWord_t σ 5 v46 → ((v46 = 0 → pre_X14_isWord_t σ 5 ∧ (∀ (v60 : Int), rng v60 → post_X14_isWord_t σ 5 v60 → ((v60 = 0 → pre_X14_isWord_t σ 7 ∧ (∀ (v74 : Int), rng v74 → post_X14_isWord_t σ 7 v74 → ((v74 = 0 → pre_X14_isWord_t σ 6 ∧ (∀ (v88 : Int), rng v88 → post_X14_isWord_t σ 6 v88 → ((v88 = 0 → pre_X14_isWord_t σ 6 ∧ (∀ (v103 : Int), rng v103 → post_X14_isWord_t σ 6 v103 → ((v103 = 0 → pre_X14_isWord_t σ 4 ∧ (∀ (v118 : Int), rng v118 → post_X14_isWord_t σ 4 v118 → ((v118 = 0 → Q (-1)) ∧ (¬ v118 = 0 → Q 8)))) ∧ (¬ v103 = 0 → Q 7)))) ∧ (¬ v88 = 0 → Q 6)))) ∧ (¬ v74 = 0 → Q 5)))) ∧ (¬ v60 = 0 → Q 4)))) ∧ (¬ v46 = 0 → Q 3)))) ∧ (¬ v32 = 0 → Q 2)))) ∧ (¬ v18 = 0 → Q 1)))) ∧ (¬ v4 = 0 → Q 0)))
set_option maxHeartbeats 20000000 in
theorem vX14_function_t (σ : rS) (hwf : rWF σ) (hp : pre_X14_function_t σ ) : VC_X14_function_t σ (post_X14_function_t σ ) := by
  unfold pre_X14_function_t at hp
  obtain ⟨hp_1, hp_2, hp_3⟩ := hp
  unfold VC_X14_function_t
  refine ⟨(by (try simp only [pre_X14_isWord_t]); (all_goals (repeat' (first | with_reducible intro _ | with_reducible apply And.intro))); all_goals (first | assumption | trivial | omega | (have zz_ := fz_z (by assumption); omega) | (split <;> omega) | grind (splits := 20) [Im])), ?_⟩
  intro v4 hv4 q4
  unfold rng at hv4
  unfold post_X14_isWord_t at q4
  obtain ⟨q4_1, q4_2, q4_3⟩ := q4
  refine ⟨fun c7 => ?_, fun c7 => ?_⟩
  · refine ⟨(by (try simp only [pre_X14_isWord_t]); (all_goals (repeat' (first | with_reducible intro _ | with_reducible apply And.intro))); all_goals (first | assumption | trivial | omega | (have zz_ := fz_z (by assumption); omega) | (split <;> omega) | grind (splits := 20) [Im])), ?_⟩
    intro v18 hv18 q18
    unfold rng at hv18
    unfold post_X14_isWord_t at q18
    obtain ⟨q18_1, q18_2, q18_3⟩ := q18
    refine ⟨fun c21 => ?_, fun c21 => ?_⟩
    · refine ⟨(by (try simp only [pre_X14_isWord_t]); (all_goals (repeat' (first | with_reducible intro _ | with_reducible apply And.intro))); all_goals (first | assumption | trivial | omega | (have zz_ := fz_z (by assumption); omega) | (split <;> omega) | grind (splits := 20) [Im])), ?_⟩
      intro v32 hv32 q32
      unfold rng at hv32
      unfold post_X14_isWord_t at q32
      obtain ⟨q32_1, q32_2, q32_3⟩ := q32
      refine ⟨fun c35 => ?_, fun c35 => ?_⟩
      · refine ⟨(by (try simp only [pre_X14_isWord_t]); (all_goals (repeat' (first | with_reducible intro _ | with_reducible apply And.intro))); all_goals (first | assumption | trivial | omega | (have zz_ := fz_z (by assumption); omega) | (split <;> omega) | grind (splits := 20) [Im])), ?_⟩
        intro v46 hv46 q46
        unfold rng at hv46
        unfold post_X14_isWord_t at q46
        obtain ⟨q46_1, q46_2, q46_3⟩ := q46
        refine ⟨fun c49 => ?_, fun c49 => ?_⟩
        · refine ⟨(by (try simp only [pre_X14_isWord_t]); (all_goals (repeat' (first | with_reducible intro _ | with_reducible apply And.intro))); all_goals (first | assumption | trivial | omega | (have zz_ := fz_z (by assumption); omega) | (split <;> omega) | grind (splits := 20) [Im])), ?_⟩
          intro v60 hv60 q60
          unfold rng at hv60
          unfold post_X14_isWord_t at q60
          obtain ⟨q60_1, q60_2, q60_3⟩ := q60
          refine ⟨fun c63 => ?_, fun c63 => ?_⟩
          · refine ⟨(by (try simp only [pre_X14_isWord_t]); (all_goals (repeat' (first | with_reducible intro _ | with_reducible apply And.intro))); all_goals (first | assumption | trivial | omega | (have zz_ := fz_z (by assumption); omega) | (split <;> omega) | grind (splits := 20) [Im])), ?_⟩
            intro v74 hv74 q74
            unfold rng at hv74
            unfold post_X14_isWord_t at q74
            obtain ⟨q74_1, q74_2, q74_3⟩ := q74
            refine ⟨fun c77 => ?_, fun c77 => ?_⟩
            · refine ⟨(by (try simp only [pre_X14_isWord_t]); (all_goals (repeat' (first | with_reducible intro _ | with_reducible apply And.intro))); all_goals (first | assumption | trivial | omega | (have zz_ := fz_z (by assumption); omega) | (split <;> omega) | grind (splits := 20) [Im])), ?_⟩
              intro v88 hv88 q88
              unfold rng at hv88
              unfold post_X14_isWord_t at q88
              obtain ⟨q88_1, q88_2, q88_3⟩ := q88
              refine ⟨fun c91 => ?_, fun c91 => ?_⟩
              · refine ⟨(by (try simp only [pre_X14_isWord_t]); (all_goals (repeat' (first | with_reducible intro _ | with_reducible apply And.intro))); all_goals (first | assumption | trivial | omega | (have zz_ := fz_z (by assumption); omega) | (split <;> omega) | grind (splits := 20) [Im])), ?_⟩
                intro v103 hv103 q103
                unfold rng at hv103
                unfold post_X14_isWord_t at q103
                obtain ⟨q103_1, q103_2, q103_3⟩ := q103
                refine ⟨fun c106 => ?_, fun c106 => ?_⟩
                · refine ⟨(by (try simp only [pre_X14_isWord_t]); (all_goals (repeat' (first | with_reducible intro _ | with_reducible apply And.intro))); all_goals (first | assumption | trivial | omega | (have zz_ := fz_z (by assumption); omega) | (split <;> omega) | grind (splits := 20) [Im])), ?_⟩
                  intro v118 hv118 q118
                  unfold rng at hv118
                  unfold post_X14_isWord_t at q118
                  obtain ⟨q118_1, q118_2, q118_3⟩ := q118
                  refine ⟨fun c121 => ?_, fun c121 => ?_⟩
                  · exact (by (try simp only [post_X14_function_t]); (all_goals (repeat' (first | with_reducible intro _ | with_reducible apply And.intro))); all_goals (first | assumption | trivial | omega | (have zz_ := fz_z (by assumption); omega) | (split <;> omega) | grind (splits := 20) [Im]))
                  · exact (by (try simp only [post_X14_function_t]); (all_goals (repeat' (first | with_reducible intro _ | with_reducible apply And.intro))); all_goals (first | assumption | trivial | omega | (have zz_ := fz_z (by assumption); omega) | (split <;> omega) | grind (splits := 20) [Im]))
                · exact (by (try simp only [post_X14_function_t]); (all_goals (repeat' (first | with_reducible intro _ | with_reducible apply And.intro))); all_goals (first | assumption | trivial | omega | (have zz_ := fz_z (by assumption); omega) | (split <;> omega) | grind (splits := 20) [Im]))
              · exact (by (try simp only [post_X14_function_t]); (all_goals (repeat' (first | with_reducible intro _ | with_reducible apply And.intro))); all_goals (first | assumption | trivial | omega | (have zz_ := fz_z (by assumption); omega) | (split <;> omega) | grind (splits := 20) [Im]))
            · exact (by (try simp only [post_X14_function_t]); (all_goals (repeat' (first | with_reducible intro _ | with_reducible apply And.intro))); all_goals (first | assumption | trivial | omega | (have zz_ := fz_z (by assumption); omega) | (split <;> omega) | grind (splits := 20) [Im]))
          · exact (by (try simp only [post_X14_function_t]); (all_goals (repeat' (first | with_reducible intro _ | with_reducible apply And.intro))); all_goals (first | assumption | trivial | omega | (have zz_ := fz_z (by assumption); omega) | (split <;> omega) | grind (splits := 20) [Im]))
        · exact (by (try simp only [post_X14_function_t]); (all_goals (repeat' (first | with_reducible intro _ | with_reducible apply And.intro))); all_goals (first | assumption | trivial | omega | (have zz_ := fz_z (by assumption); omega) | (split <;> omega) | grind (splits := 20) [Im]))
      · exact (by (try simp only [post_X14_function_t]); (all_goals (repeat' (first | with_reducible intro _ | with_reducible apply And.intro))); all_goals (first | assumption | trivial | omega | (have zz_ := fz_z (by assumption); omega) | (split <;> omega) | grind (splits := 20) [Im]))
    · exact (by (try simp only [post_X14_function_t]); (all_goals (repeat' (first | with_reducible intro _ | with_reducible apply And.intro))); all_goals (first | assumption | trivial | omega | (have zz_ := fz_z (by assumption); omega) | (split <;> omega) | grind (splits := 20) [Im]))
  · exact (by (try simp only [post_X14_function_t]); (all_goals (repeat' (first | with_reducible intro _ | with_reducible apply And.intro))); all_goals (first | assumption | trivial | omega | (have zz_ := fz_z (by assumption); omega) | (split <;> omega) | grind (splits := 20) [Im]))
theorem wX14_function_t (l : Launch) (G : zG) (κ : Nat → Nat) (σ : rS) (hwf : rWF σ) (Q : Int → Prop) (h : VC_X14_function_t σ Q) : rMi l G κ yX14_function cX14_function 1 .int 6 167 [.ref (κ 0)] σ (fun x s => s = σ ∧ Q x) := by
  refine zMi.intro (by decide +kernel) (Nat.le_of_ble_eq_true rfl) (fun X hC hR => ?_)
  refine z_aload_n hC (pc := 0) 0 dX14_function_0 rfl rfl ?_
  refine z_ldcSw hC (pc := 1) dX14_function_1 zS_37 ?_
  obtain ⟨p10, h⟩ := h
  refine y_callVi hC (pc := 4) (As := [.ref (G.2.2 75)]) (kX14_isWord_t l G κ σ (G.2.2 75) 5 hwf (rSt_37 G) p10) dmX14_isWord zf14 rOb_0 dX14_function_4 zw3128 rfl rfl (Nat.le_of_ble_eq_true rfl) (Nat.le_of_ble_eq_true rfl) (Nat.le_of_ble_eq_true rfl) (Nat.le_of_ble_eq_true rfl) (Nat.le_of_ble_eq_true rfl) (kk := fun v4 s4 hv4 Ws4 qs4 => ?_)
  obtain ⟨es4, qs4⟩ := qs4
  have es4 := es4.symm
  subst es4
  have h := h v4 hv4 qs4
  obtain ⟨hT, hF⟩ := h
  refine y_if_eq hC (pc := 7) 14 hv4 dX14_function_7 (by decide) (fun c => ?_) (fun c => ?_)
  · have h := hT c
    refine z_aload_n hC (pc := 14) 0 dX14_function_14 rfl rfl ?_
    refine z_ldcSw hC (pc := 15) dX14_function_15 zS_38 ?_
    obtain ⟨p11, h⟩ := h
    refine y_callVi hC (pc := 18) (As := [.ref (G.2.2 77)]) (kX14_isWord_t l G κ σ (G.2.2 77) 4 hwf (rSt_38 G) p11) dmX14_isWord zf14 rOb_0 dX14_function_18 zw3128 rfl rfl (Nat.le_of_ble_eq_true rfl) (Nat.le_of_ble_eq_true rfl) (Nat.le_of_ble_eq_true rfl) (Nat.le_of_ble_eq_true rfl) (Nat.le_of_ble_eq_true rfl) (kk := fun v18 s18 hv18 Ws18 qs18 => ?_)
    obtain ⟨es18, qs18⟩ := qs18
    have es18 := es18.symm
    subst es18
    have h := h v18 hv18 qs18
    obtain ⟨hT, hF⟩ := h
    refine y_if_eq hC (pc := 21) 28 hv18 dX14_function_21 (by decide) (fun c => ?_) (fun c => ?_)
    · have h := hT c
      refine z_aload_n hC (pc := 28) 0 dX14_function_28 rfl rfl ?_
      refine z_ldcSw hC (pc := 29) dX14_function_29 zS_39 ?_
      obtain ⟨p12, h⟩ := h
      refine y_callVi hC (pc := 32) (As := [.ref (G.2.2 79)]) (kX14_isWord_t l G κ σ (G.2.2 79) 4 hwf (rSt_39 G) p12) dmX14_isWord zf14 rOb_0 dX14_function_32 zw3128 rfl rfl (Nat.le_of_ble_eq_true rfl) (Nat.le_of_ble_eq_true rfl) (Nat.le_of_ble_eq_true rfl) (Nat.le_of_ble_eq_true rfl) (Nat.le_of_ble_eq_true rfl) (kk := fun v32 s32 hv32 Ws32 qs32 => ?_)
      obtain ⟨es32, qs32⟩ := qs32
      have es32 := es32.symm
      subst es32
      have h := h v32 hv32 qs32
      obtain ⟨hT, hF⟩ := h
      refine y_if_eq hC (pc := 35) 42 hv32 dX14_function_35 (by decide) (fun c => ?_) (fun c => ?_)
      · have h := hT c
        refine z_aload_n hC (pc := 42) 0 dX14_function_42 rfl rfl ?_
        refine z_ldcSw hC (pc := 43) dX14_function_43 zS_40 ?_
        obtain ⟨p13, h⟩ := h
        refine y_callVi hC (pc := 46) (As := [.ref (G.2.2 81)]) (kX14_isWord_t l G κ σ (G.2.2 81) 5 hwf (rSt_40 G) p13) dmX14_isWord zf14 rOb_0 dX14_function_46 zw3128 rfl rfl (Nat.le_of_ble_eq_true rfl) (Nat.le_of_ble_eq_true rfl) (Nat.le_of_ble_eq_true rfl) (Nat.le_of_ble_eq_true rfl) (Nat.le_of_ble_eq_true rfl) (kk := fun v46 s46 hv46 Ws46 qs46 => ?_)
        obtain ⟨es46, qs46⟩ := qs46
        have es46 := es46.symm
        subst es46
        have h := h v46 hv46 qs46
        obtain ⟨hT, hF⟩ := h
        refine y_if_eq hC (pc := 49) 56 hv46 dX14_function_49 (by decide) (fun c => ?_) (fun c => ?_)
        · have h := hT c
          refine z_aload_n hC (pc := 56) 0 dX14_function_56 rfl rfl ?_
          refine z_ldcSw hC (pc := 57) dX14_function_57 zS_41 ?_
          obtain ⟨p14, h⟩ := h
          refine y_callVi hC (pc := 60) (As := [.ref (G.2.2 83)]) (kX14_isWord_t l G κ σ (G.2.2 83) 5 hwf (rSt_41 G) p14) dmX14_isWord zf14 rOb_0 dX14_function_60 zw3128 rfl rfl (Nat.le_of_ble_eq_true rfl) (Nat.le_of_ble_eq_true rfl) (Nat.le_of_ble_eq_true rfl) (Nat.le_of_ble_eq_true rfl) (Nat.le_of_ble_eq_true rfl) (kk := fun v60 s60 hv60 Ws60 qs60 => ?_)
          obtain ⟨es60, qs60⟩ := qs60
          have es60 := es60.symm
          subst es60
          have h := h v60 hv60 qs60
          obtain ⟨hT, hF⟩ := h
          refine y_if_eq hC (pc := 63) 70 hv60 dX14_function_63 (by decide) (fun c => ?_) (fun c => ?_)
          · have h := hT c
            refine z_aload_n hC (pc := 70) 0 dX14_function_70 rfl rfl ?_
            refine z_ldcSw hC (pc := 71) dX14_function_71 zS_42 ?_
            obtain ⟨p15, h⟩ := h
            refine y_callVi hC (pc := 74) (As := [.ref (G.2.2 85)]) (kX14_isWord_t l G κ σ (G.2.2 85) 7 hwf (rSt_42 G) p15) dmX14_isWord zf14 rOb_0 dX14_function_74 zw3128 rfl rfl (Nat.le_of_ble_eq_true rfl) (Nat.le_of_ble_eq_true rfl) (Nat.le_of_ble_eq_true rfl) (Nat.le_of_ble_eq_true rfl) (Nat.le_of_ble_eq_true rfl) (kk := fun v74 s74 hv74 Ws74 qs74 => ?_)
            obtain ⟨es74, qs74⟩ := qs74
            have es74 := es74.symm
            subst es74
            have h := h v74 hv74 qs74
            obtain ⟨hT, hF⟩ := h
            refine y_if_eq hC (pc := 77) 84 hv74 dX14_function_77 (by decide) (fun c => ?_) (fun c => ?_)
            · have h := hT c
              refine z_aload_n hC (pc := 84) 0 dX14_function_84 rfl rfl ?_
              refine z_ldcSw hC (pc := 85) dX14_function_85 zS_43 ?_
              obtain ⟨p16, h⟩ := h
              refine y_callVi hC (pc := 88) (As := [.ref (G.2.2 87)]) (kX14_isWord_t l G κ σ (G.2.2 87) 6 hwf (rSt_43 G) p16) dmX14_isWord zf14 rOb_0 dX14_function_88 zw3128 rfl rfl (Nat.le_of_ble_eq_true rfl) (Nat.le_of_ble_eq_true rfl) (Nat.le_of_ble_eq_true rfl) (Nat.le_of_ble_eq_true rfl) (Nat.le_of_ble_eq_true rfl) (kk := fun v88 s88 hv88 Ws88 qs88 => ?_)
              obtain ⟨es88, qs88⟩ := qs88
              have es88 := es88.symm
              subst es88
              have h := h v88 hv88 qs88
              obtain ⟨hT, hF⟩ := h
              refine y_if_eq hC (pc := 91) 99 hv88 dX14_function_91 (by decide) (fun c => ?_) (fun c => ?_)
              · have h := hT c
                refine z_aload_n hC (pc := 99) 0 dX14_function_99 rfl rfl ?_
                refine z_ldcSw hC (pc := 100) dX14_function_100 zS_44 ?_
                obtain ⟨p17, h⟩ := h
                refine y_callVi hC (pc := 103) (As := [.ref (G.2.2 89)]) (kX14_isWord_t l G κ σ (G.2.2 89) 6 hwf (rSt_44 G) p17) dmX14_isWord zf14 rOb_0 dX14_function_103 zw3128 rfl rfl (Nat.le_of_ble_eq_true rfl) (Nat.le_of_ble_eq_true rfl) (Nat.le_of_ble_eq_true rfl) (Nat.le_of_ble_eq_true rfl) (Nat.le_of_ble_eq_true rfl) (kk := fun v103 s103 hv103 Ws103 qs103 => ?_)
                obtain ⟨es103, qs103⟩ := qs103
                have es103 := es103.symm
                subst es103
                have h := h v103 hv103 qs103
                obtain ⟨hT, hF⟩ := h
                refine y_if_eq hC (pc := 106) 114 hv103 dX14_function_106 (by decide) (fun c => ?_) (fun c => ?_)
                · have h := hT c
                  refine z_aload_n hC (pc := 114) 0 dX14_function_114 rfl rfl ?_
                  refine z_ldcSw hC (pc := 115) dX14_function_115 zS_45 ?_
                  obtain ⟨p18, h⟩ := h
                  refine y_callVi hC (pc := 118) (As := [.ref (G.2.2 91)]) (kX14_isWord_t l G κ σ (G.2.2 91) 4 hwf (rSt_45 G) p18) dmX14_isWord zf14 rOb_0 dX14_function_118 zw3128 rfl rfl (Nat.le_of_ble_eq_true rfl) (Nat.le_of_ble_eq_true rfl) (Nat.le_of_ble_eq_true rfl) (Nat.le_of_ble_eq_true rfl) (Nat.le_of_ble_eq_true rfl) (kk := fun v118 s118 hv118 Ws118 qs118 => ?_)
                  obtain ⟨es118, qs118⟩ := qs118
                  have es118 := es118.symm
                  subst es118
                  have h := h v118 hv118 qs118
                  obtain ⟨hT, hF⟩ := h
                  refine y_if_eq hC (pc := 121) 129 hv118 dX14_function_121 (by decide) (fun c => ?_) (fun c => ?_)
                  · have h := hT c
                    refine z_iconst hC (pc := 129) (v := Int32.ofInt (-1)) dX14_function_129 (by decide) ?_
                    exact y_reti hR dX14_function_130 rfl (r_lit rfl) hwf (Nat.le_of_ble_eq_true rfl) (Nat.le_of_ble_eq_true rfl) ⟨rfl, h⟩
                  · have h := hF c
                    refine z_bipush hC (pc := 124) (v := Int32.ofInt 8) dX14_function_124 (by decide) ?_
                    refine z_goto hC (pc := 126) 130 dX14_function_126 (by decide) ?_
                    exact y_reti hR dX14_function_130 rfl (r_lit rfl) hwf (Nat.le_of_ble_eq_true rfl) (Nat.le_of_ble_eq_true rfl) ⟨rfl, h⟩
                · have h := hF c
                  refine z_bipush hC (pc := 109) (v := Int32.ofInt 7) dX14_function_109 (by decide) ?_
                  refine z_goto hC (pc := 111) 130 dX14_function_111 (by decide) ?_
                  exact y_reti hR dX14_function_130 rfl (r_lit rfl) hwf (Nat.le_of_ble_eq_true rfl) (Nat.le_of_ble_eq_true rfl) ⟨rfl, h⟩
              · have h := hF c
                refine z_bipush hC (pc := 94) (v := Int32.ofInt 6) dX14_function_94 (by decide) ?_
                refine z_goto hC (pc := 96) 130 dX14_function_96 (by decide) ?_
                exact y_reti hR dX14_function_130 rfl (r_lit rfl) hwf (Nat.le_of_ble_eq_true rfl) (Nat.le_of_ble_eq_true rfl) ⟨rfl, h⟩
            · have h := hF c
              refine z_iconst hC (pc := 80) (v := Int32.ofInt 5) dX14_function_80 (by decide) ?_
              refine z_goto hC (pc := 81) 130 dX14_function_81 (by decide) ?_
              exact y_reti hR dX14_function_130 rfl (r_lit rfl) hwf (Nat.le_of_ble_eq_true rfl) (Nat.le_of_ble_eq_true rfl) ⟨rfl, h⟩
          · have h := hF c
            refine z_iconst hC (pc := 66) (v := Int32.ofInt 4) dX14_function_66 (by decide) ?_
            refine z_goto hC (pc := 67) 130 dX14_function_67 (by decide) ?_
            exact y_reti hR dX14_function_130 rfl (r_lit rfl) hwf (Nat.le_of_ble_eq_true rfl) (Nat.le_of_ble_eq_true rfl) ⟨rfl, h⟩
        · have h := hF c
          refine z_iconst hC (pc := 52) (v := Int32.ofInt 3) dX14_function_52 (by decide) ?_
          refine z_goto hC (pc := 53) 130 dX14_function_53 (by decide) ?_
          exact y_reti hR dX14_function_130 rfl (r_lit rfl) hwf (Nat.le_of_ble_eq_true rfl) (Nat.le_of_ble_eq_true rfl) ⟨rfl, h⟩
      · have h := hF c
        refine z_iconst hC (pc := 38) (v := Int32.ofInt 2) dX14_function_38 (by decide) ?_
        refine z_goto hC (pc := 39) 130 dX14_function_39 (by decide) ?_
        exact y_reti hR dX14_function_130 rfl (r_lit rfl) hwf (Nat.le_of_ble_eq_true rfl) (Nat.le_of_ble_eq_true rfl) ⟨rfl, h⟩
    · have h := hF c
      refine z_iconst hC (pc := 24) (v := Int32.ofInt 1) dX14_function_24 (by decide) ?_
      refine z_goto hC (pc := 25) 130 dX14_function_25 (by decide) ?_
      exact y_reti hR dX14_function_130 rfl (r_lit rfl) hwf (Nat.le_of_ble_eq_true rfl) (Nat.le_of_ble_eq_true rfl) ⟨rfl, h⟩
  · have h := hF c
    refine z_iconst hC (pc := 10) (v := Int32.ofInt 0) dX14_function_10 (by decide) ?_
    refine z_goto hC (pc := 11) 130 dX14_function_11 (by decide) ?_
    exact y_reti hR dX14_function_130 rfl (r_lit rfl) hwf (Nat.le_of_ble_eq_true rfl) (Nat.le_of_ble_eq_true rfl) ⟨rfl, h⟩
theorem kX14_function_t (l : Launch) (G : zG) (κ : Nat → Nat) (σ : rS) (hwf : rWF σ) (hp : pre_X14_function_t σ ) : rMi l G κ yX14_function cX14_function 1 .int 6 167 [.ref (κ 0)] σ (fun x s => s = σ ∧ post_X14_function_t σ x) := wX14_function_t l G κ σ hwf (post_X14_function_t σ ) (vX14_function_t σ hwf hp) 
def pre_X14_readString_g (σ : rS) (x1 : Int) (gg : Nat) (g : Nat → Int → Int) : Prop := rR σ 7 = gg ∧ rgk gg ∧ TPRp σ ∧ 0 ≤ (rF σ 0 29) ∧ (rF σ 0 29) ≤ (rF σ 0 28) + 3 * fz σ ∧ 0 ≤ (rF σ 0 28) ∧ (rF σ 0 28) ≤ 4001 ∧ fz σ = 0 ∧ (rF σ 0 29) < (rF σ 0 28) ∧ 1 ≤ (rF σ gg 7) ∧ (rF σ gg 7) < 50000 ∧ 0 ≤ (rF σ gg 9) ∧ (rF σ gg 9) + ((rF σ 0 28) - (rF σ 0 29)) ≤ 60000 ∧ 0 ≤ (rF σ 0 14) ∧ (rF σ 0 14) ≤ 7 ∧ -1 ≤ (rF σ 0 31) ∧ (rF σ 0 31) ≤ 20 ∧ rNMp σ ∧ PNp σ ∧ Im (fz σ = 0) (GS σ gg g)
def post_X14_readString_g (σ : rS) (x1 : Int) (gg : Nat) (g : Nat → Int → Int) (r : Int) (σ' : rS) : Prop := (rF σ 0 29) ≤ (rF σ' 0 29) ∧ (rF σ' 0 29) ≤ (rF σ 0 28) + 3 * fz σ' ∧ fz σ ≤ fz σ' ∧ (rF σ gg 9) ≤ (rF σ' gg 9) ∧ (rF σ' gg 9) + (rF σ 0 29) ≤ (rF σ gg 9) + (rF σ' 0 29) ∧ (rF σ gg 7) ≤ (rF σ' gg 7) ∧ (rF σ' gg 7) + fz σ' = (rF σ gg 7) + 1 ∧ rNMp σ' ∧ PNp σ' ∧ 0 ≤ r ∧ r < (rF σ' gg 7) ∧ (rF σ gg 7) ≤ r + 60000 * fz σ' ∧ (rF σ 0 29) + 2 ≤ (rF σ' 0 29) + 2 * fz σ' ∧ Im (fz σ' = 0) (RG σ σ' gg 0) ∧ ∃ h, Im (fz σ' = 0) (GS σ' gg h ∧ GK g h (rF σ gg 7) (rF σ' gg 7) 0 ∧ NR σ' gg h 2 r ((rF σ gg 7)) ((rF σ 0 29)) ((rF σ' 0 29)) ((rF σ 0 31)) ∧ ok1)
def inv_X14_readString_g_12 (σ : rS) (x1 : Int) (gg : Nat) (g : Nat → Int → Int)  (s : rS) (pl : Int) (k : Int) : Prop := 0 ≤ pl ∧ pl ≤ 4000 ∧ (rF s 0 29) = (rF σ 0 29) ∧ fz s = 0 ∧ (rF σ 0 29) < k ∧ k ≤ (rF σ 0 28) ∧ rF s gg 9 = (rF σ gg 9) ∧ rF s gg 7 = (rF σ gg 7) ∧ rNMp s ∧ PNp s ∧ Im (fz s = 0) (RG σ s gg 0) ∧ ∃ h, Im (fz s = 0) (GS s gg h ∧ GK g h (rF σ gg 7) (rF s gg 7) 0 ∧ ok1)
def mu_X14_readString_g_12 (σ : rS) (x1 : Int) (gg : Nat) (g : Nat → Int → Int) (s : rS) (pl : Int) (k : Int) : Nat := (1 + ((rF σ 0 28) - k).toNat)
def VC_X14_readString_g (σ : rS) (x1 : Int) (gg : Nat) (g : Nat → Int → Int) (Q : Int → rS → Prop) : Prop := rgk (rR σ 7) ∧ pre_X14_place σ ∧ (∀ (v1 : Int), rng v1 → post_X14_place σ v1 → (rng (rF σ 0 29) → rng ((rF σ 0 29) + 1) ∧ (inv_X14_readString_g_12 σ x1 gg g σ v1 ((rF σ 0 29) + 1))))
def VC_X14_readString_g_12 (σ : rS) (x1 : Int) (gg : Nat) (g : Nat → Int → Int) (Q : Int → rS → Prop) : Prop := ∀ (s12 : rS) (y12_2 : Int) (y12_3 : Int), rWF s12 → rng y12_2 → rng y12_3 → (TPRp σ → TPRp s12) → rR s12 7 = rR σ 7 → rF s12 0 14 = rF σ 0 14 → rF s12 0 28 = rF σ 0 28 → rF s12 0 31 = rF σ 0 31 → rF s12 0 38 = rF σ 0 38 → rF s12 0 39 = rF σ 0 39 → rF s12 (rR σ 7) 12 = rF σ (rR σ 7) 12 → rF s12 (rR σ 7) 32 = rF σ (rR σ 7) 32 → rF s12 (rR σ 7) 38 = rF σ (rR σ 7) 38 → (∀ i, rA s12 (1000 * ((rR σ 7) + 1) + 10) i = rA σ (1000 * ((rR σ 7) + 1) + 10) i) → (∀ i, rA s12 (1000 * ((rR σ 7) + 1) + 11) i = rA σ (1000 * ((rR σ 7) + 1) + 11) i) → inv_X14_readString_g_12 σ x1 gg g s12 y12_2 y12_3 → ((rng (rF s12 0 28) → (((rF s12 0 28) ≤ y12_3 → (((rF s12 0 28) ≤ y12_3 → (((rF s12 0 28) ≤ y12_3 → (rng (rF s12 0 30) → pre_X14_bad s12 1 (rF s12 0 30) ∧ (∀ (s89 : rS), rWF s89 → (rNMp s12 → rNMp s89) → (TPRp s12 → TPRp s89) → (PNp s12 → PNp s89) → rR s89 7 = rR s12 7 → rF s89 0 14 = rF s12 0 14 → rF s89 0 28 = rF s12 0 28 → rF s89 0 29 = rF s12 0 29 → rF s89 0 31 = rF s12 0 31 → rF s89 0 38 = rF s12 0 38 → rF s89 0 39 = rF s12 0 39 → rF s89 (rR σ 7) 7 = rF s12 (rR σ 7) 7 → rF s89 (rR σ 7) 9 = rF s12 (rR σ 7) 9 → rF s89 (rR σ 7) 12 = rF s12 (rR σ 7) 12 → rF s89 (rR σ 7) 32 = rF s12 (rR σ 7) 32 → rF s89 (rR σ 7) 38 = rF s12 (rR σ 7) 38 → (∀ i, rA s89 (1000 * ((rR σ 7) + 1) + 10) i = rA s12 (1000 * ((rR σ 7) + 1) + 10) i) → (∀ i, rA s89 (1000 * ((rR σ 7) + 1) + 11) i = rA s12 (1000 * ((rR σ 7) + 1) + 11) i) → RG s12 s89 (rR σ 7) 0 → post_X14_bad s12 1 (rF s12 0 30) s89 → Q 0 s89))) ∧ (¬ (rF s12 0 28) ≤ y12_3 → (0 ≤ y12_3 ∧ y12_3 < 4001) ∧ (rng (rA s12 1027 y12_3) → pre_X14_bad s12 1 (rA s12 1027 y12_3) ∧ (∀ (s89 : rS), rWF s89 → (rNMp s12 → rNMp s89) → (TPRp s12 → TPRp s89) → (PNp s12 → PNp s89) → rR s89 7 = rR s12 7 → rF s89 0 14 = rF s12 0 14 → rF s89 0 28 = rF s12 0 28 → rF s89 0 29 = rF s12 0 29 → rF s89 0 31 = rF s12 0 31 → rF s89 0 38 = rF s12 0 38 → rF s89 0 39 = rF s12 0 39 → rF s89 (rR σ 7) 7 = rF s12 (rR σ 7) 7 → rF s89 (rR σ 7) 9 = rF s12 (rR σ 7) 9 → rF s89 (rR σ 7) 12 = rF s12 (rR σ 7) 12 → rF s89 (rR σ 7) 32 = rF s12 (rR σ 7) 32 → rF s89 (rR σ 7) 38 = rF s12 (rR σ 7) 38 → (∀ i, rA s89 (1000 * ((rR σ 7) + 1) + 10) i = rA s12 (1000 * ((rR σ 7) + 1) + 10) i) → (∀ i, rA s89 (1000 * ((rR σ 7) + 1) + 11) i = rA s12 (1000 * ((rR σ 7) + 1) + 11) i) → RG s12 s89 (rR σ 7) 0 → post_X14_bad s12 1 (rA s12 1027 y12_3) s89 → Q 0 s89))))) ∧ (¬ (rF s12 0 28) ≤ y12_3 → (0 ≤ y12_3 ∧ y12_3 < 4001) ∧ (rng (rA s12 1026 y12_3) → ((¬ (rA s12 1026 y12_3) = 10 → (rng (rF s12 0 29) → rng ((rF s12 0 29) + 1) ∧ pre_X14_keepString_t s12 1026 4001 ((rF s12 0 29) + 1) y12_3 y12_2 gg ∧ (∀ (v107 : Int) (s107 : rS), rng v107 → rWF s107 → (TPRp s12 → TPRp s107) → rR s107 7 = rR s12 7 → rF s107 0 10 = rF s12 0 10 → rF s107 0 14 = rF s12 0 14 → rF s107 0 28 = rF s12 0 28 → rF s107 0 29 = rF s12 0 29 → rF s107 0 31 = rF s12 0 31 → rF s107 0 38 = rF s12 0 38 → rF s107 0 39 = rF s12 0 39 → rF s107 (rR σ 7) 12 = rF s12 (rR σ 7) 12 → rF s107 (rR σ 7) 32 = rF s12 (rR σ 7) 32 → rF s107 (rR σ 7) 38 = rF s12 (rR σ 7) 38 → (∀ i, rA s107 (1000 * ((rR σ 7) + 1) + 10) i = rA s12 (1000 * ((rR σ 7) + 1) + 10) i) → (∀ i, rA s107 (1000 * ((rR σ 7) + 1) + 11) i = rA s12 (1000 * ((rR σ 7) + 1) + 11) i) → fz s107 = fz s12 → post_X14_keepString_t s12 1026 4001 ((rF s12 0 29) + 1) y12_3 y12_2 gg v107 s107 → rng (y12_3 + 1) ∧ Q v107 (sF s107 0 29 (y12_3 + 1))))) ∧ ((rA s12 1026 y12_3) = 10 → (((rF s12 0 28) ≤ y12_3 → (rng (rF s12 0 30) → pre_X14_bad s12 1 (rF s12 0 30) ∧ (∀ (s89 : rS), rWF s89 → (rNMp s12 → rNMp s89) → (TPRp s12 → TPRp s89) → (PNp s12 → PNp s89) → rR s89 7 = rR s12 7 → rF s89 0 14 = rF s12 0 14 → rF s89 0 28 = rF s12 0 28 → rF s89 0 29 = rF s12 0 29 → rF s89 0 31 = rF s12 0 31 → rF s89 0 38 = rF s12 0 38 → rF s89 0 39 = rF s12 0 39 → rF s89 (rR σ 7) 7 = rF s12 (rR σ 7) 7 → rF s89 (rR σ 7) 9 = rF s12 (rR σ 7) 9 → rF s89 (rR σ 7) 12 = rF s12 (rR σ 7) 12 → rF s89 (rR σ 7) 32 = rF s12 (rR σ 7) 32 → rF s89 (rR σ 7) 38 = rF s12 (rR σ 7) 38 → (∀ i, rA s89 (1000 * ((rR σ 7) + 1) + 10) i = rA s12 (1000 * ((rR σ 7) + 1) + 10) i) → (∀ i, rA s89 (1000 * ((rR σ 7) + 1) + 11) i = rA s12 (1000 * ((rR σ 7) + 1) + 11) i) → RG s12 s89 (rR σ 7) 0 → post_X14_bad s12 1 (rF s12 0 30) s89 → Q 0 s89))) ∧ (¬ (rF s12 0 28) ≤ y12_3 → (0 ≤ y12_3 ∧ y12_3 < 4001) ∧ (rng (rA s12 1027 y12_3) → pre_X14_bad s12 1 (rA s12 1027 y12_3) ∧ (∀ (s89 : rS), rWF s89 → (rNMp s12 → rNMp s89) → (TPRp s12 → TPRp s89) → (PNp s12 → PNp s89) → rR s89 7 = rR s12 7 → rF s89 0 14 = rF s12 0 14 → rF s89 0 28 = rF s12 0 28 → rF s89 0 29 = rF s12 0 29 → rF s89 0 31 = rF s12 0 31 → rF s89 0 38 = rF s12 0 38 → rF s89 0 39 = rF s12 0 39 → rF s89 (rR σ 7) 7 = rF s12 (rR σ 7) 7 → rF s89 (rR σ 7) 9 = rF s12 (rR σ 7) 9 → rF s89 (rR σ 7) 12 = rF s12 (rR σ 7) 12 → rF s89 (rR σ 7) 32 = rF s12 (rR σ 7) 32 → rF s89 (rR σ 7) 38 = rF s12 (rR σ 7) 38 → (∀ i, rA s89 (1000 * ((rR σ 7) + 1) + 10) i = rA s12 (1000 * ((rR σ 7) + 1) + 10) i) → (∀ i, rA s89 (1000 * ((rR σ 7) + 1) + 11) i = rA s12 (1000 * ((rR σ 7) + 1) + 11) i) → RG s12 s89 (rR σ 7) 0 → post_X14_bad s12 1 (rA s12 1027 y12_3) s89 → Q 0 s89)))))))))) ∧ (¬ (rF s12 0 28) ≤ y12_3 → (0 ≤ y12_3 ∧ y12_3 < 4001) ∧ (rng (rA s12 1026 y12_3) → (((rA s12 1026 y12_3) = x1 → (((rF s12 0 28) ≤ y12_3 → (((rF s12 0 28) ≤ y12_3 → (rng (rF s12 0 30) → pre_X14_bad s12 1 (rF s12 0 30) ∧ (∀ (s89 : rS), rWF s89 → (rNMp s12 → rNMp s89) → (TPRp s12 → TPRp s89) → (PNp s12 → PNp s89) → rR s89 7 = rR s12 7 → rF s89 0 14 = rF s12 0 14 → rF s89 0 28 = rF s12 0 28 → rF s89 0 29 = rF s12 0 29 → rF s89 0 31 = rF s12 0 31 → rF s89 0 38 = rF s12 0 38 → rF s89 0 39 = rF s12 0 39 → rF s89 (rR σ 7) 7 = rF s12 (rR σ 7) 7 → rF s89 (rR σ 7) 9 = rF s12 (rR σ 7) 9 → rF s89 (rR σ 7) 12 = rF s12 (rR σ 7) 12 → rF s89 (rR σ 7) 32 = rF s12 (rR σ 7) 32 → rF s89 (rR σ 7) 38 = rF s12 (rR σ 7) 38 → (∀ i, rA s89 (1000 * ((rR σ 7) + 1) + 10) i = rA s12 (1000 * ((rR σ 7) + 1) + 10) i) → (∀ i, rA s89 (1000 * ((rR σ 7) + 1) + 11) i = rA s12 (1000 * ((rR σ 7) + 1) + 11) i) → RG s12 s89 (rR σ 7) 0 → post_X14_bad s12 1 (rF s12 0 30) s89 → Q 0 s89))) ∧ (¬ (rF s12 0 28) ≤ y12_3 → (0 ≤ y12_3 ∧ y12_3 < 4001) ∧ (rng (rA s12 1027 y12_3) → pre_X14_bad s12 1 (rA s12 1027 y12_3) ∧ (∀ (s89 : rS), rWF s89 → (rNMp s12 → rNMp s89) → (TPRp s12 → TPRp s89) → (PNp s12 → PNp s89) → rR s89 7 = rR s12 7 → rF s89 0 14 = rF s12 0 14 → rF s89 0 28 = rF s12 0 28 → rF s89 0 29 = rF s12 0 29 → rF s89 0 31 = rF s12 0 31 → rF s89 0 38 = rF s12 0 38 → rF s89 0 39 = rF s12 0 39 → rF s89 (rR σ 7) 7 = rF s12 (rR σ 7) 7 → rF s89 (rR σ 7) 9 = rF s12 (rR σ 7) 9 → rF s89 (rR σ 7) 12 = rF s12 (rR σ 7) 12 → rF s89 (rR σ 7) 32 = rF s12 (rR σ 7) 32 → rF s89 (rR σ 7) 38 = rF s12 (rR σ 7) 38 → (∀ i, rA s89 (1000 * ((rR σ 7) + 1) + 10) i = rA s12 (1000 * ((rR σ 7) + 1) + 10) i) → (∀ i, rA s89 (1000 * ((rR σ 7) + 1) + 11) i = rA s12 (1000 * ((rR σ 7) + 1) + 11) i) → RG s12 s89 (rR σ 7) 0 → post_X14_bad s12 1 (rA s12 1027 y12_3) s89 → Q 0 s89))))) ∧ (¬ (rF s12 0 28) ≤ y12_3 → (0 ≤ y12_3 ∧ y12_3 < 4001) ∧ ((¬ (rA s12 1026 y12_3) = 10 → (rng (rF s12 0 29) → rng ((rF s12 0 29) + 1) ∧ pre_X14_keepString_t s12 1026 4001 ((rF s12 0 29) + 1) y12_3 y12_2 gg ∧ (∀ (v107 : Int) (s107 : rS), rng v107 → rWF s107 → (TPRp s12 → TPRp s107) → rR s107 7 = rR s12 7 → rF s107 0 10 = rF s12 0 10 → rF s107 0 14 = rF s12 0 14 → rF s107 0 28 = rF s12 0 28 → rF s107 0 29 = rF s12 0 29 → rF s107 0 31 = rF s12 0 31 → rF s107 0 38 = rF s12 0 38 → rF s107 0 39 = rF s12 0 39 → rF s107 (rR σ 7) 12 = rF s12 (rR σ 7) 12 → rF s107 (rR σ 7) 32 = rF s12 (rR σ 7) 32 → rF s107 (rR σ 7) 38 = rF s12 (rR σ 7) 38 → (∀ i, rA s107 (1000 * ((rR σ 7) + 1) + 10) i = rA s12 (1000 * ((rR σ 7) + 1) + 10) i) → (∀ i, rA s107 (1000 * ((rR σ 7) + 1) + 11) i = rA s12 (1000 * ((rR σ 7) + 1) + 11) i) → fz s107 = fz s12 → post_X14_keepString_t s12 1026 4001 ((rF s12 0 29) + 1) y12_3 y12_2 gg v107 s107 → rng (y12_3 + 1) ∧ Q v107 (sF s107 0 29 (y12_3 + 1))))) ∧ ((rA s12 1026 y12_3) = 10 → (((rF s12 0 28) ≤ y12_3 → (rng (rF s12 0 30) → pre_X14_bad s12 1 (rF s12 0 30) ∧ (∀ (s89 : rS), rWF s89 → (rNMp s12 → rNMp s89) → (TPRp s12 → TPRp s89) → (PNp s12 → PNp s89) → rR s89 7 = rR s12 7 → rF s89 0 14 = rF s12 0 14 → rF s89 0 28 = rF s12 0 28 → rF s89 0 29 = rF s12 0 29 → rF s89 0 31 = rF s12 0 31 → rF s89 0 38 = rF s12 0 38 → rF s89 0 39 = rF s12 0 39 → rF s89 (rR σ 7) 7 = rF s12 (rR σ 7) 7 → rF s89 (rR σ 7) 9 = rF s12 (rR σ 7) 9 → rF s89 (rR σ 7) 12 = rF s12 (rR σ 7) 12 → rF s89 (rR σ 7) 32 = rF s12 (rR σ 7) 32 → rF s89 (rR σ 7) 38 = rF s12 (rR σ 7) 38 → (∀ i, rA s89 (1000 * ((rR σ 7) + 1) + 10) i = rA s12 (1000 * ((rR σ 7) + 1) + 10) i) → (∀ i, rA s89 (1000 * ((rR σ 7) + 1) + 11) i = rA s12 (1000 * ((rR σ 7) + 1) + 11) i) → RG s12 s89 (rR σ 7) 0 → post_X14_bad s12 1 (rF s12 0 30) s89 → Q 0 s89))) ∧ (¬ (rF s12 0 28) ≤ y12_3 → (0 ≤ y12_3 ∧ y12_3 < 4001) ∧ (rng (rA s12 1027 y12_3) → pre_X14_bad s12 1 (rA s12 1027 y12_3) ∧ (∀ (s89 : rS), rWF s89 → (rNMp s12 → rNMp s89) → (TPRp s12 → TPRp s89) → (PNp s12 → PNp s89) → rR s89 7 = rR s12 7 → rF s89 0 14 = rF s12 0 14 → rF s89 0 28 = rF s12 0 28 → rF s89 0 29 = rF s12 0 29 → rF s89 0 31 = rF s12 0 31 → rF s89 0 38 = rF s12 0 38 → rF s89 0 39 = rF s12 0 39 → rF s89 (rR σ 7) 7 = rF s12 (rR σ 7) 7 → rF s89 (rR σ 7) 9 = rF s12 (rR σ 7) 9 → rF s89 (rR σ 7) 12 = rF s12 (rR σ 7) 12 → rF s89 (rR σ 7) 32 = rF s12 (rR σ 7) 32 → rF s89 (rR σ 7) 38 = rF s12 (rR σ 7) 38 → (∀ i, rA s89 (1000 * ((rR σ 7) + 1) + 10) i = rA s12 (1000 * ((rR σ 7) + 1) + 10) i) → (∀ i, rA s89 (1000 * ((rR σ 7) + 1) + 11) i = rA s12 (1000 * ((rR σ 7) + 1) + 11) i) → RG s12 s89 (rR σ 7) 0 → post_X14_bad s12 1 (rA s12 1027 y12_3) s89 → Q 0 s89))))))))) ∧ (¬ (rA s12 1026 y12_3) = x1 → (0 ≤ y12_3 ∧ y12_3 < 4001) ∧ (((rA s12 1026 y12_3) = 10 → (((rF s12 0 28) ≤ y12_3 → (((rF s12 0 28) ≤ y12_3 → (rng (rF s12 0 30) → pre_X14_bad s12 1 (rF s12 0 30) ∧ (∀ (s89 : rS), rWF s89 → (rNMp s12 → rNMp s89) → (TPRp s12 → TPRp s89) → (PNp s12 → PNp s89) → rR s89 7 = rR s12 7 → rF s89 0 14 = rF s12 0 14 → rF s89 0 28 = rF s12 0 28 → rF s89 0 29 = rF s12 0 29 → rF s89 0 31 = rF s12 0 31 → rF s89 0 38 = rF s12 0 38 → rF s89 0 39 = rF s12 0 39 → rF s89 (rR σ 7) 7 = rF s12 (rR σ 7) 7 → rF s89 (rR σ 7) 9 = rF s12 (rR σ 7) 9 → rF s89 (rR σ 7) 12 = rF s12 (rR σ 7) 12 → rF s89 (rR σ 7) 32 = rF s12 (rR σ 7) 32 → rF s89 (rR σ 7) 38 = rF s12 (rR σ 7) 38 → (∀ i, rA s89 (1000 * ((rR σ 7) + 1) + 10) i = rA s12 (1000 * ((rR σ 7) + 1) + 10) i) → (∀ i, rA s89 (1000 * ((rR σ 7) + 1) + 11) i = rA s12 (1000 * ((rR σ 7) + 1) + 11) i) → RG s12 s89 (rR σ 7) 0 → post_X14_bad s12 1 (rF s12 0 30) s89 → Q 0 s89))) ∧ (¬ (rF s12 0 28) ≤ y12_3 → (0 ≤ y12_3 ∧ y12_3 < 4001) ∧ (rng (rA s12 1027 y12_3) → pre_X14_bad s12 1 (rA s12 1027 y12_3) ∧ (∀ (s89 : rS), rWF s89 → (rNMp s12 → rNMp s89) → (TPRp s12 → TPRp s89) → (PNp s12 → PNp s89) → rR s89 7 = rR s12 7 → rF s89 0 14 = rF s12 0 14 → rF s89 0 28 = rF s12 0 28 → rF s89 0 29 = rF s12 0 29 → rF s89 0 31 = rF s12 0 31 → rF s89 0 38 = rF s12 0 38 → rF s89 0 39 = rF s12 0 39 → rF s89 (rR σ 7) 7 = rF s12 (rR σ 7) 7 → rF s89 (rR σ 7) 9 = rF s12 (rR σ 7) 9 → rF s89 (rR σ 7) 12 = rF s12 (rR σ 7) 12 → rF s89 (rR σ 7) 32 = rF s12 (rR σ 7) 32 → rF s89 (rR σ 7) 38 = rF s12 (rR σ 7) 38 → (∀ i, rA s89 (1000 * ((rR σ 7) + 1) + 10) i = rA s12 (1000 * ((rR σ 7) + 1) + 10) i) → (∀ i, rA s89 (1000 * ((rR σ 7) + 1) + 11) i = rA s12 (1000 * ((rR σ 7) + 1) + 11) i) → RG s12 s89 (rR σ 7) 0 → post_X14_bad s12 1 (rA s12 1027 y12_3) s89 → Q 0 s89))))) ∧ (¬ (rF s12 0 28) ≤ y12_3 → (0 ≤ y12_3 ∧ y12_3 < 4001) ∧ ((¬ (rA s12 1026 y12_3) = 10 → (rng (rF s12 0 29) → rng ((rF s12 0 29) + 1) ∧ pre_X14_keepString_t s12 1026 4001 ((rF s12 0 29) + 1) y12_3 y12_2 gg ∧ (∀ (v107 : Int) (s107 : rS), rng v107 → rWF s107 → (TPRp s12 → TPRp s107) → rR s107 7 = rR s12 7 → rF s107 0 10 = rF s12 0 10 → rF s107 0 14 = rF s12 0 14 → rF s107 0 28 = rF s12 0 28 → rF s107 0 29 = rF s12 0 29 → rF s107 0 31 = rF s12 0 31 → rF s107 0 38 = rF s12 0 38 → rF s107 0 39 = rF s12 0 39 → rF s107 (rR σ 7) 12 = rF s12 (rR σ 7) 12 → rF s107 (rR σ 7) 32 = rF s12 (rR σ 7) 32 → rF s107 (rR σ 7) 38 = rF s12 (rR σ 7) 38 → (∀ i, rA s107 (1000 * ((rR σ 7) + 1) + 10) i = rA s12 (1000 * ((rR σ 7) + 1) + 10) i) → (∀ i, rA s107 (1000 * ((rR σ 7) + 1) + 11) i = rA s12 (1000 * ((rR σ 7) + 1) + 11) i) → fz s107 = fz s12 → post_X14_keepString_t s12 1026 4001 ((rF s12 0 29) + 1) y12_3 y12_2 gg v107 s107 → rng (y12_3 + 1) ∧ Q v107 (sF s107 0 29 (y12_3 + 1))))) ∧ ((rA s12 1026 y12_3) = 10 → (((rF s12 0 28) ≤ y12_3 → (rng (rF s12 0 30) → pre_X14_bad s12 1 (rF s12 0 30) ∧ (∀ (s89 : rS), rWF s89 → (rNMp s12 → rNMp s89) → (TPRp s12 → TPRp s89) → (PNp s12 → PNp s89) → rR s89 7 = rR s12 7 → rF s89 0 14 = rF s12 0 14 → rF s89 0 28 = rF s12 0 28 → rF s89 0 29 = rF s12 0 29 → rF s89 0 31 = rF s12 0 31 → rF s89 0 38 = rF s12 0 38 → rF s89 0 39 = rF s12 0 39 → rF s89 (rR σ 7) 7 = rF s12 (rR σ 7) 7 → rF s89 (rR σ 7) 9 = rF s12 (rR σ 7) 9 → rF s89 (rR σ 7) 12 = rF s12 (rR σ 7) 12 → rF s89 (rR σ 7) 32 = rF s12 (rR σ 7) 32 → rF s89 (rR σ 7) 38 = rF s12 (rR σ 7) 38 → (∀ i, rA s89 (1000 * ((rR σ 7) + 1) + 10) i = rA s12 (1000 * ((rR σ 7) + 1) + 10) i) → (∀ i, rA s89 (1000 * ((rR σ 7) + 1) + 11) i = rA s12 (1000 * ((rR σ 7) + 1) + 11) i) → RG s12 s89 (rR σ 7) 0 → post_X14_bad s12 1 (rF s12 0 30) s89 → Q 0 s89))) ∧ (¬ (rF s12 0 28) ≤ y12_3 → (0 ≤ y12_3 ∧ y12_3 < 4001) ∧ (rng (rA s12 1027 y12_3) → pre_X14_bad s12 1 (rA s12 1027 y12_3) ∧ (∀ (s89 : rS), rWF s89 → (rNMp s12 → rNMp s89) → (TPRp s12 → TPRp s89) → (PNp s12 → PNp s89) → rR s89 7 = rR s12 7 → rF s89 0 14 = rF s12 0 14 → rF s89 0 28 = rF s12 0 28 → rF s89 0 29 = rF s12 0 29 → rF s89 0 31 = rF s12 0 31 → rF s89 0 38 = rF s12 0 38 → rF s89 0 39 = rF s12 0 39 → rF s89 (rR σ 7) 7 = rF s12 (rR σ 7) 7 → rF s89 (rR σ 7) 9 = rF s12 (rR σ 7) 9 → rF s89 (rR σ 7) 12 = rF s12 (rR σ 7) 12 → rF s89 (rR σ 7) 32 = rF s12 (rR σ 7) 32 → rF s89 (rR σ 7) 38 = rF s12 (rR σ 7) 38 → (∀ i, rA s89 (1000 * ((rR σ 7) + 1) + 10) i = rA s12 (1000 * ((rR σ 7) + 1) + 10) i) → (∀ i, rA s89 (1000 * ((rR σ 7) + 1) + 11) i = rA s12 (1000 * ((rR σ 7) + 1) + 11) i) → RG s12 s89 (rR σ 7) 0 → post_X14_bad s12 1 (rA s12 1027 y12_3) s89 → Q 0 s89))))))))) ∧ (¬ (rA s12 1026 y12_3) = 10 → rng (y12_3 + 1) ∧ (inv_X14_readString_g_12 σ x1 gg g s12 y12_2 (y12_3 + 1) ∧ (mu_X14_readString_g_12 σ x1 gg g s12 y12_2 (y12_3 + 1)) < (mu_X14_readString_g_12 σ x1 gg g s12 y12_2 y12_3)))))))))))
def VC_X14_readString_g_12m (σ : rS) (x1 : Int) (gg : Nat) (g : Nat → Int → Int) : Prop := ∀ (s12 : rS) (y12_2 : Int) (y12_3 : Int), rWF s12 → rng y12_2 → rng y12_3 → (TPRp σ → TPRp s12) → rR s12 7 = rR σ 7 → rF s12 0 14 = rF σ 0 14 → rF s12 0 28 = rF σ 0 28 → rF s12 0 31 = rF σ 0 31 → rF s12 0 38 = rF σ 0 38 → rF s12 0 39 = rF σ 0 39 → rF s12 (rR σ 7) 12 = rF σ (rR σ 7) 12 → rF s12 (rR σ 7) 32 = rF σ (rR σ 7) 32 → rF s12 (rR σ 7) 38 = rF σ (rR σ 7) 38 → (∀ i, rA s12 (1000 * ((rR σ 7) + 1) + 10) i = rA σ (1000 * ((rR σ 7) + 1) + 10) i) → (∀ i, rA s12 (1000 * ((rR σ 7) + 1) + 11) i = rA σ (1000 * ((rR σ 7) + 1) + 11) i) → inv_X14_readString_g_12 σ x1 gg g s12 y12_2 y12_3 → 0 < (mu_X14_readString_g_12 σ x1 gg g s12 y12_2 y12_3)
set_option maxHeartbeats 20000000 in
theorem vX14_readString_g (σ : rS) (x1 : Int) (gg : Nat) (g : Nat → Int → Int) (hwf : rWF σ) (hx1 : rng x1) (hp : pre_X14_readString_g σ x1 gg g) : VC_X14_readString_g σ x1 gg g (post_X14_readString_g σ x1 gg g) := by
  unfold pre_X14_readString_g at hp
  obtain ⟨hp_1, hp_2, hp_3, hp_4, hp_5, hp_6, hp_7, hp_8, hp_9, hp_10, hp_11, hp_12, hp_13, hp_14, hp_15, hp_16, hp_17, hp_18, hp_19, hp_20⟩ := hp
  unfold rng at hx1
  subst hp_1
  have zr0 := fz_rng σ
  unfold VC_X14_readString_g
  refine ⟨(by (all_goals (repeat' (first | with_reducible intro _ | with_reducible apply And.intro))); all_goals (first | assumption | trivial | omega | (have zz_ := fz_z (by assumption); omega) | (split <;> omega) | (exact rNMp.grow (k := rR σ 7) (σ := s12) (by assumption) (by assumption) (by assumption) (by omega) (by omega) (by assumption) (by assumption)) | done)), ?_⟩
  refine ⟨(by (try simp only [pre_X14_place]); (all_goals (repeat' (first | with_reducible intro _ | with_reducible apply And.intro | with_reducible refine Exists.intro g ?_ | with_reducible refine Im.and ?_ ?_))); all_goals (first | assumption | trivial | ((with_reducible refine Im.i fun hf_ => ?_); first | exact ((fun _ => RG.rf) hf_) | exact (hp_20 hf_) | exact ((fun _ => GK.rf) hf_) | exact ok1.i | (exact LI.z (fun h => absurd h (by decide))) | (exact absurd hf_ (by omega)) | omega) | omega | (have zz_ := fz_z (by assumption); omega) | (split <;> omega) | (exact rNMp.grow (k := rR σ 7) (σ := s12) (by assumption) (by assumption) (by assumption) (by omega) (by omega) (by assumption) (by assumption)) | done)), ?_⟩
  intro v1 hv1 q1
  unfold rng at hv1
  unfold post_X14_place at q1
  obtain ⟨q1_1, q1_2⟩ := q1
  intro hr_; unfold rng at hr_
  refine ⟨(by (try simp only [rng]); (all_goals (repeat' (first | with_reducible intro _ | with_reducible apply And.intro | with_reducible refine Exists.intro g ?_ | with_reducible refine Im.and ?_ ?_))); all_goals (first | assumption | trivial | ((with_reducible refine Im.i fun hf_ => ?_); first | exact ((fun _ => RG.rf) hf_) | exact (hp_20 hf_) | exact ((fun _ => GK.rf) hf_) | exact ok1.i | (exact LI.z (fun h => absurd h (by decide))) | (exact absurd hf_ (by omega)) | omega) | omega | (have zz_ := fz_z (by assumption); omega) | (split <;> omega) | (exact rNMp.grow (k := rR σ 7) (σ := s12) (by assumption) (by assumption) (by assumption) (by omega) (by omega) (by assumption) (by assumption)) | done)), ?_⟩
  exact (by (try simp only [inv_X14_readString_g_12]); (all_goals (repeat' (first | with_reducible intro _ | with_reducible apply And.intro | with_reducible refine Exists.intro g ?_ | with_reducible refine Im.and ?_ ?_))); all_goals (first | assumption | trivial | ((with_reducible refine Im.i fun hf_ => ?_); first | exact ((fun _ => RG.rf) hf_) | exact (hp_20 hf_) | exact ((fun _ => GK.rf) hf_) | exact ok1.i | (exact LI.z (fun h => absurd h (by decide))) | (exact absurd hf_ (by omega)) | omega) | omega | (have zz_ := fz_z (by assumption); omega) | (split <;> omega) | (exact rNMp.grow (k := rR σ 7) (σ := s12) (by assumption) (by assumption) (by assumption) (by omega) (by omega) (by assumption) (by assumption)) | done))
set_option maxHeartbeats 20000000 in
theorem vX14_readString_g_12 (σ : rS) (x1 : Int) (gg : Nat) (g : Nat → Int → Int) (hwf : rWF σ) (hx1 : rng x1) (hp : pre_X14_readString_g σ x1 gg g) : VC_X14_readString_g_12 σ x1 gg g (post_X14_readString_g σ x1 gg g) := by
  unfold pre_X14_readString_g at hp
  obtain ⟨hp_1, hp_2, hp_3, hp_4, hp_5, hp_6, hp_7, hp_8, hp_9, hp_10, hp_11, hp_12, hp_13, hp_14, hp_15, hp_16, hp_17, hp_18, hp_19, hp_20⟩ := hp
  unfold rng at hx1
  subst hp_1
  have zr0 := fz_rng σ
  unfold VC_X14_readString_g_12
  intro s12 y12_2 y12_3 Ws12 hy12_2 hy12_3 e12_0 e12_1 e12_2 e12_3 e12_4 e12_5 e12_6 e12_7 e12_8 e12_9 e12_10 e12_11 I12
  have Ks12 : rR s12 7 = rR σ 7 := by omega
  unfold inv_X14_readString_g_12 at I12
  obtain ⟨I12_1, I12_2, I12_3, I12_4, I12_5, I12_6, I12_7, I12_8, I12_9, I12_10, I12_11, I12_12⟩ := I12
  (try simp only [Ks12] at I12_1 I12_2 I12_3 I12_4 I12_5 I12_6 I12_7 I12_8 I12_9 I12_10 I12_11 I12_12)
  have zr12 := fz_rng s12
  have TPRp_12 := e12_0 hp_3; clear e12_0
  obtain ⟨g12, X12⟩ := I12_12
  have G12 : Im (fz s12 = 0) _ := fun hf => (X12 hf).1
  have KA12 : Im (fz s12 = 0) _ := fun hf => (X12 hf).2.1
  intro hr_; unfold rng at hr_
  refine ⟨fun c17 => ?_, fun c17 => ?_⟩
  · refine ⟨fun c52 => ?_, fun c52 => ?_⟩
    · refine ⟨fun c73 => ?_, fun c73 => ?_⟩
      · intro hr_; unfold rng at hr_
        refine ⟨(by (try simp only [pre_X14_bad, Ks12]); (all_goals (repeat' (first | with_reducible intro _ | with_reducible apply And.intro | with_reducible refine Exists.intro g12 ?_ | with_reducible refine Im.and ?_ ?_))); all_goals (first | assumption | trivial | ((with_reducible refine Im.i fun hf_ => ?_); first | exact (I12_11 hf_) | exact (G12 hf_) | exact (KA12 hf_) | exact ok1.i | (exact LI.z (fun h => absurd h (by decide))) | (exact absurd hf_ (by omega)) | omega) | omega | (have zz_ := fz_z (by assumption); omega) | (split <;> omega) | (exact rNMp.grow (k := rR σ 7) (σ := s12) (by assumption) (by assumption) (by assumption) (by omega) (by omega) (by assumption) (by assumption)) | done)), ?_⟩
        intro s89 Ws89 e89_0 e89_1 e89_2 e89_3 e89_4 e89_5 e89_6 e89_7 e89_8 e89_9 e89_10 e89_11 e89_12 e89_13 e89_14 e89_15 e89_16 R89 q89
        have q89 := dig_bad q89 (by (try simp only [Ks12]); omega)
        obtain ⟨q89_1, q89_2⟩ := q89
        (try simp only [Ks12] at q89_1 q89_2 e89_0 e89_1 e89_2 e89_3 e89_4 e89_5 e89_6 e89_7 e89_8 e89_9 e89_10 e89_11 e89_12 e89_13 e89_14 e89_15 e89_16 R89)
        have Ks89 : rR s89 7 = rR σ 7 := by first | assumption | ((try simp only [rR_sF, rR_sA, rR_sT, rR_sL] at e89_0 e89_1 e89_2 e89_3 e89_4 e89_5 e89_6 e89_7 e89_8 e89_9 e89_10 e89_11 e89_12 e89_13 e89_14 e89_15 e89_16 R89); omega)
        have zr89 := fz_rng s89
        have zc89 : fz s89 = 0 → fz s12 = 0 := fun hf => by omega
        have A89 : Im (fz s89 = 0) (RG σ s89 (rR σ 7) 0) := fun hf => RG.trk hp_2 (I12_11 (zc89 hf)) R89 (Or.inr (Or.inl rfl))
        have Ku1 : Im (fz s89 = 0) (GK g g12 (rF σ (rR σ 7) 7) (rF s89 (rR σ 7) 7) 0) := fun hf => GK.trans (KA12 (zc89 hf)) (GK.up (N := rF s12 (rR σ 7) 7) (N' := rF s89 (rR σ 7) 7) (c := 0) (by first | assumption | omega | (simp only [rF_sT, rF_sA]; omega))) (Or.inr (Or.inl rfl))
        have Gu2 : Im (fz s89 = 0) (GS s89 (rR σ 7) g12) := fun hf => GS.mv hp_2 (G12 (zc89 hf)) R89 (by first | assumption | omega | (simp only [rF_sT, rF_sA]; omega)) (by first | (exact Int.le_of_eq (Eq.symm (by assumption))) | omega | (simp only [rF_sT, rF_sA]; omega))
        have rNMp_89 := e89_0 I12_9; clear e89_0
        have TPRp_89 := e89_1 TPRp_12; clear e89_1
        have PNp_89 := e89_2 I12_10; clear e89_2
        exact (by (try simp only [post_X14_readString_g, Ks89]); (all_goals (repeat' (first | with_reducible intro _ | with_reducible apply And.intro | with_reducible refine Exists.intro g12 ?_ | with_reducible refine Im.and ?_ ?_))); all_goals (first | assumption | trivial | ((with_reducible refine Im.i fun hf_ => ?_); first | exact (A89 hf_) | exact (Gu2 hf_) | exact (Ku1 hf_) | exact ok1.i | (exact LI.z (fun h => absurd h (by decide))) | (exact absurd hf_ (by omega)) | omega) | omega | (have zz_ := fz_z (by assumption); omega) | (split <;> omega) | (exact rNMp.grow (k := rR σ 7) (σ := s12) (by assumption) (by assumption) (by assumption) (by omega) (by omega) (by assumption) (by assumption)) | done))
      · refine ⟨(by (try simp only [Ks12]); (all_goals (repeat' (first | with_reducible intro _ | with_reducible apply And.intro | with_reducible refine Exists.intro g12 ?_ | with_reducible refine Im.and ?_ ?_))); all_goals (first | assumption | trivial | ((with_reducible refine Im.i fun hf_ => ?_); first | exact (I12_11 hf_) | exact (G12 hf_) | exact (KA12 hf_) | exact ok1.i | (exact LI.z (fun h => absurd h (by decide))) | (exact absurd hf_ (by omega)) | omega) | omega | (have zz_ := fz_z (by assumption); omega) | (split <;> omega) | (exact rNMp.grow (k := rR σ 7) (σ := s12) (by assumption) (by assumption) (by assumption) (by omega) (by omega) (by assumption) (by assumption)) | done)), ?_⟩
        intro hr_; unfold rng at hr_
        refine ⟨(by (try simp only [pre_X14_bad, Ks12]); (all_goals (repeat' (first | with_reducible intro _ | with_reducible apply And.intro | with_reducible refine Exists.intro g12 ?_ | with_reducible refine Im.and ?_ ?_))); all_goals (first | assumption | trivial | ((with_reducible refine Im.i fun hf_ => ?_); first | exact (I12_11 hf_) | exact (G12 hf_) | exact (KA12 hf_) | exact ok1.i | (exact LI.z (fun h => absurd h (by decide))) | (exact absurd hf_ (by omega)) | omega) | omega | (have zz_ := fz_z (by assumption); omega) | (split <;> omega) | (exact rNMp.grow (k := rR σ 7) (σ := s12) (by assumption) (by assumption) (by assumption) (by omega) (by omega) (by assumption) (by assumption)) | done)), ?_⟩
        intro s89 Ws89 e89_0 e89_1 e89_2 e89_3 e89_4 e89_5 e89_6 e89_7 e89_8 e89_9 e89_10 e89_11 e89_12 e89_13 e89_14 e89_15 e89_16 R89 q89
        have q89 := dig_bad q89 (by (try simp only [Ks12]); omega)
        obtain ⟨q89_1, q89_2⟩ := q89
        (try simp only [Ks12] at q89_1 q89_2 e89_0 e89_1 e89_2 e89_3 e89_4 e89_5 e89_6 e89_7 e89_8 e89_9 e89_10 e89_11 e89_12 e89_13 e89_14 e89_15 e89_16 R89)
        have Ks89 : rR s89 7 = rR σ 7 := by first | assumption | ((try simp only [rR_sF, rR_sA, rR_sT, rR_sL] at e89_0 e89_1 e89_2 e89_3 e89_4 e89_5 e89_6 e89_7 e89_8 e89_9 e89_10 e89_11 e89_12 e89_13 e89_14 e89_15 e89_16 R89); omega)
        have zr89 := fz_rng s89
        have zc89 : fz s89 = 0 → fz s12 = 0 := fun hf => by omega
        have A89 : Im (fz s89 = 0) (RG σ s89 (rR σ 7) 0) := fun hf => RG.trk hp_2 (I12_11 (zc89 hf)) R89 (Or.inr (Or.inl rfl))
        have Ku3 : Im (fz s89 = 0) (GK g g12 (rF σ (rR σ 7) 7) (rF s89 (rR σ 7) 7) 0) := fun hf => GK.trans (KA12 (zc89 hf)) (GK.up (N := rF s12 (rR σ 7) 7) (N' := rF s89 (rR σ 7) 7) (c := 0) (by first | assumption | omega | (simp only [rF_sT, rF_sA]; omega))) (Or.inr (Or.inl rfl))
        have Gu4 : Im (fz s89 = 0) (GS s89 (rR σ 7) g12) := fun hf => GS.mv hp_2 (G12 (zc89 hf)) R89 (by first | assumption | omega | (simp only [rF_sT, rF_sA]; omega)) (by first | (exact Int.le_of_eq (Eq.symm (by assumption))) | omega | (simp only [rF_sT, rF_sA]; omega))
        have rNMp_89 := e89_0 I12_9; clear e89_0
        have TPRp_89 := e89_1 TPRp_12; clear e89_1
        have PNp_89 := e89_2 I12_10; clear e89_2
        exact (by (try simp only [post_X14_readString_g, Ks89]); (all_goals (repeat' (first | with_reducible intro _ | with_reducible apply And.intro | with_reducible refine Exists.intro g12 ?_ | with_reducible refine Im.and ?_ ?_))); all_goals (first | assumption | trivial | ((with_reducible refine Im.i fun hf_ => ?_); first | exact (A89 hf_) | exact (Gu4 hf_) | exact (Ku3 hf_) | exact ok1.i | (exact LI.z (fun h => absurd h (by decide))) | (exact absurd hf_ (by omega)) | omega) | omega | (have zz_ := fz_z (by assumption); omega) | (split <;> omega) | (exact rNMp.grow (k := rR σ 7) (σ := s12) (by assumption) (by assumption) (by assumption) (by omega) (by omega) (by assumption) (by assumption)) | done))
    · refine ⟨(by (try simp only [Ks12]); (all_goals (repeat' (first | with_reducible intro _ | with_reducible apply And.intro | with_reducible refine Exists.intro g12 ?_ | with_reducible refine Im.and ?_ ?_))); all_goals (first | assumption | trivial | ((with_reducible refine Im.i fun hf_ => ?_); first | exact (I12_11 hf_) | exact (G12 hf_) | exact (KA12 hf_) | exact ok1.i | (exact LI.z (fun h => absurd h (by decide))) | (exact absurd hf_ (by omega)) | omega) | omega | (have zz_ := fz_z (by assumption); omega) | (split <;> omega) | (exact rNMp.grow (k := rR σ 7) (σ := s12) (by assumption) (by assumption) (by assumption) (by omega) (by omega) (by assumption) (by assumption)) | done)), ?_⟩
      intro hr_; unfold rng at hr_
      refine ⟨fun c63 => ?_, fun c63 => ?_⟩
      · intro hr_; unfold rng at hr_
        refine ⟨(by (try simp only [rng, Ks12]); (all_goals (repeat' (first | with_reducible intro _ | with_reducible apply And.intro | with_reducible refine Exists.intro g12 ?_ | with_reducible refine Im.and ?_ ?_))); all_goals (first | assumption | trivial | ((with_reducible refine Im.i fun hf_ => ?_); first | exact (I12_11 hf_) | exact (G12 hf_) | exact (KA12 hf_) | exact ok1.i | (exact LI.z (fun h => absurd h (by decide))) | (exact absurd hf_ (by omega)) | omega) | omega | (have zz_ := fz_z (by assumption); omega) | (split <;> omega) | (exact rNMp.grow (k := rR σ 7) (σ := s12) (by assumption) (by assumption) (by assumption) (by omega) (by omega) (by assumption) (by assumption)) | done)), ?_⟩
        refine ⟨(by (try simp only [pre_X14_keepString_t, Ks12]); (all_goals (repeat' (first | with_reducible intro _ | with_reducible apply And.intro | with_reducible refine Exists.intro g12 ?_ | with_reducible refine Im.and ?_ ?_))); all_goals (first | assumption | trivial | ((with_reducible refine Im.i fun hf_ => ?_); first | exact (I12_11 hf_) | exact (G12 hf_) | exact (KA12 hf_) | exact ok1.i | (exact LI.z (fun h => absurd h (by decide))) | (exact absurd hf_ (by omega)) | omega) | omega | (have zz_ := fz_z (by assumption); omega) | (split <;> omega) | (exact rNMp.grow (k := rR σ 7) (σ := s12) (by assumption) (by assumption) (by assumption) (by omega) (by omega) (by assumption) (by assumption)) | done)), ?_⟩
        intro v107 s107 hv107 Ws107 e107_0 e107_1 e107_2 e107_3 e107_4 e107_5 e107_6 e107_7 e107_8 e107_9 e107_10 e107_11 e107_12 e107_13 e107_14 q107
        unfold rng at hv107
        unfold post_X14_keepString_t at q107
        obtain ⟨q107_1, q107_2, q107_3, q107_4, q107_5, q107_6, q107_7, q107_8, q107_9, q107_10, q107_11, q107_12⟩ := q107
        (try simp only [Ks12] at q107_1 q107_2 q107_3 q107_4 q107_5 q107_6 q107_7 q107_8 q107_9 q107_10 q107_11 q107_12 e107_0 e107_1 e107_2 e107_3 e107_4 e107_5 e107_6 e107_7 e107_8 e107_9 e107_10 e107_11 e107_12 e107_13 e107_14)
        have Ks107 : rR s107 7 = rR σ 7 := by first | assumption | ((try simp only [rR_sF, rR_sA, rR_sT, rR_sL] at e107_0 e107_1 e107_2 e107_3 e107_4 e107_5 e107_6 e107_7 e107_8 e107_9 e107_10 e107_11 e107_12 e107_13 e107_14); omega)
        have zr107 := fz_rng s107
        have zc107 : fz s107 = 0 → fz s12 = 0 := fun hf => by omega
        have A107 : Im (fz s107 = 0) (RG σ s107 (rR σ 7) 0) := fun hf => RG.trk hp_2 (I12_11 (zc107 hf)) q107_5 (Or.inr (Or.inl rfl))
        obtain ⟨g107, X107⟩ := EN_30 (P := fz s107 = 0) (rF s12 0 29) (rF s12 0 31) hp_2 (fun hf => G12 (zc107 hf)) (fun hf => q107_5) q107_1 q107_2 q107_6 rfl rfl q107_11 (fun hf => by (try simp only [rF_sT, rF_sA]); (repeat' (with_reducible apply And.intro)) <;> first | trivial | omega)
        have Ku5 : Im (fz s107 = 0) (GK g g107 (rF σ (rR σ 7) 7) (rF s107 (rR σ 7) 7) 0) := fun hf => GK.gs (KA12 (zc107 hf)) (X107 hf).2.1
        have Gu6 : Im (fz s107 = 0) _ := fun hf => (X107 hf).1
        have O107 : Im (fz s107 = 0) _ := fun hf => (X107 hf).2.2.1
        have TPRp_107 := e107_0 TPRp_12; clear e107_0
        refine ⟨(by (try simp only [rng, Ks107]); (all_goals (repeat' (first | with_reducible intro _ | with_reducible apply And.intro | with_reducible refine Exists.intro g107 ?_ | with_reducible refine Im.and ?_ ?_))); all_goals (first | assumption | trivial | ((with_reducible refine Im.i fun hf_ => ?_); first | exact (A107 hf_) | exact (Gu6 hf_) | exact (Ku5 hf_) | exact (O107 hf_).cst | exact ok1.i | (exact LI.z (fun h => absurd h (by decide))) | (exact absurd hf_ (by omega)) | omega) | omega | (have zz_ := fz_z (by assumption); omega) | (split <;> omega) | (exact rNMp.grow (k := rR σ 7) (σ := s12) (by assumption) (by assumption) (by assumption) (by omega) (by omega) (by assumption) (by assumption)) | done)), ?_⟩
        obtain ⟨gu7, Xu8⟩ := EC_30 (P := fz s107 = 0) (y12_3 + 1) Gu6 O107 (fun hf => by omega)
        have O107u9 : Im (fz s107 = 0) _ := fun hf => (Xu8 hf).2.1
        have Ku10 : Im (fz s107 = 0) (GK g gu7 (rF σ (rR σ 7) 7) (rF s107 (rR σ 7) 7) 0) := fun hf => GK.kc (Ku5 hf) (Xu8 hf).2.2 (by omega)
        have Gu11 : Im (fz s107 = 0) _ := fun hf => (Xu8 hf).1
        exact (by (try simp only [post_X14_readString_g, reduceIte, and_true, true_and, and_false, false_and, and_self, Nat.reduceEqDiff, fz_sF29, rF_sF, rA_sF, rR_sF, tr_sF, rNMp_sF, PNp_sF, GS_F29, OP_F29, NR_F29, LI_F29, RG_l29, RG_r29, TPRp_sF29, WNp_sF29, VMp_sF29, KYp_sF29, PPp_sF29, WFp_sF29, CCp_sF29, rk_n0 hp_2, Ks107]); (all_goals (repeat' (first | with_reducible intro _ | with_reducible apply And.intro | with_reducible refine Exists.intro gu7 ?_ | with_reducible refine Im.and ?_ ?_))); all_goals (first | assumption | trivial | ((with_reducible refine Im.i fun hf_ => ?_); first | exact (A107 hf_) | exact (Gu11 hf_) | exact (Ku10 hf_) | exact (O107u9 hf_).cst | exact ok1.i | (exact LI.z (fun h => absurd h (by decide))) | (exact absurd hf_ (by omega)) | omega) | omega | (have zz_ := fz_z (by assumption); omega) | (split <;> omega) | (exact rNMp.grow (k := rR σ 7) (σ := s12) (by assumption) (by assumption) (by assumption) (by omega) (by omega) (by assumption) (by assumption)) | done))
      · refine ⟨fun c73 => ?_, fun c73 => ?_⟩
        · intro hr_; unfold rng at hr_
          refine ⟨(by (try simp only [pre_X14_bad, Ks12]); (all_goals (repeat' (first | with_reducible intro _ | with_reducible apply And.intro | with_reducible refine Exists.intro g12 ?_ | with_reducible refine Im.and ?_ ?_))); all_goals (first | assumption | trivial | ((with_reducible refine Im.i fun hf_ => ?_); first | exact (I12_11 hf_) | exact (G12 hf_) | exact (KA12 hf_) | exact ok1.i | (exact LI.z (fun h => absurd h (by decide))) | (exact absurd hf_ (by omega)) | omega) | omega | (have zz_ := fz_z (by assumption); omega) | (split <;> omega) | (exact rNMp.grow (k := rR σ 7) (σ := s12) (by assumption) (by assumption) (by assumption) (by omega) (by omega) (by assumption) (by assumption)) | done)), ?_⟩
          intro s89 Ws89 e89_0 e89_1 e89_2 e89_3 e89_4 e89_5 e89_6 e89_7 e89_8 e89_9 e89_10 e89_11 e89_12 e89_13 e89_14 e89_15 e89_16 R89 q89
          have q89 := dig_bad q89 (by (try simp only [Ks12]); omega)
          obtain ⟨q89_1, q89_2⟩ := q89
          (try simp only [Ks12] at q89_1 q89_2 e89_0 e89_1 e89_2 e89_3 e89_4 e89_5 e89_6 e89_7 e89_8 e89_9 e89_10 e89_11 e89_12 e89_13 e89_14 e89_15 e89_16 R89)
          have Ks89 : rR s89 7 = rR σ 7 := by first | assumption | ((try simp only [rR_sF, rR_sA, rR_sT, rR_sL] at e89_0 e89_1 e89_2 e89_3 e89_4 e89_5 e89_6 e89_7 e89_8 e89_9 e89_10 e89_11 e89_12 e89_13 e89_14 e89_15 e89_16 R89); omega)
          have zr89 := fz_rng s89
          have zc89 : fz s89 = 0 → fz s12 = 0 := fun hf => by omega
          have A89 : Im (fz s89 = 0) (RG σ s89 (rR σ 7) 0) := fun hf => RG.trk hp_2 (I12_11 (zc89 hf)) R89 (Or.inr (Or.inl rfl))
          have Ku12 : Im (fz s89 = 0) (GK g g12 (rF σ (rR σ 7) 7) (rF s89 (rR σ 7) 7) 0) := fun hf => GK.trans (KA12 (zc89 hf)) (GK.up (N := rF s12 (rR σ 7) 7) (N' := rF s89 (rR σ 7) 7) (c := 0) (by first | assumption | omega | (simp only [rF_sT, rF_sA]; omega))) (Or.inr (Or.inl rfl))
          have Gu13 : Im (fz s89 = 0) (GS s89 (rR σ 7) g12) := fun hf => GS.mv hp_2 (G12 (zc89 hf)) R89 (by first | assumption | omega | (simp only [rF_sT, rF_sA]; omega)) (by first | (exact Int.le_of_eq (Eq.symm (by assumption))) | omega | (simp only [rF_sT, rF_sA]; omega))
          have rNMp_89 := e89_0 I12_9; clear e89_0
          have TPRp_89 := e89_1 TPRp_12; clear e89_1
          have PNp_89 := e89_2 I12_10; clear e89_2
          exact (by (try simp only [post_X14_readString_g, Ks89]); (all_goals (repeat' (first | with_reducible intro _ | with_reducible apply And.intro | with_reducible refine Exists.intro g12 ?_ | with_reducible refine Im.and ?_ ?_))); all_goals (first | assumption | trivial | ((with_reducible refine Im.i fun hf_ => ?_); first | exact (A89 hf_) | exact (Gu13 hf_) | exact (Ku12 hf_) | exact ok1.i | (exact LI.z (fun h => absurd h (by decide))) | (exact absurd hf_ (by omega)) | omega) | omega | (have zz_ := fz_z (by assumption); omega) | (split <;> omega) | (exact rNMp.grow (k := rR σ 7) (σ := s12) (by assumption) (by assumption) (by assumption) (by omega) (by omega) (by assumption) (by assumption)) | done))
        · refine ⟨(by (try simp only [Ks12]); (all_goals (repeat' (first | with_reducible intro _ | with_reducible apply And.intro | with_reducible refine Exists.intro g12 ?_ | with_reducible refine Im.and ?_ ?_))); all_goals (first | assumption | trivial | ((with_reducible refine Im.i fun hf_ => ?_); first | exact (I12_11 hf_) | exact (G12 hf_) | exact (KA12 hf_) | exact ok1.i | (exact LI.z (fun h => absurd h (by decide))) | (exact absurd hf_ (by omega)) | omega) | omega | (have zz_ := fz_z (by assumption); omega) | (split <;> omega) | (exact rNMp.grow (k := rR σ 7) (σ := s12) (by assumption) (by assumption) (by assumption) (by omega) (by omega) (by assumption) (by assumption)) | done)), ?_⟩
          intro hr_; unfold rng at hr_
          refine ⟨(by (try simp only [pre_X14_bad, Ks12]); (all_goals (repeat' (first | with_reducible intro _ | with_reducible apply And.intro | with_reducible refine Exists.intro g12 ?_ | with_reducible refine Im.and ?_ ?_))); all_goals (first | assumption | trivial | ((with_reducible refine Im.i fun hf_ => ?_); first | exact (I12_11 hf_) | exact (G12 hf_) | exact (KA12 hf_) | exact ok1.i | (exact LI.z (fun h => absurd h (by decide))) | (exact absurd hf_ (by omega)) | omega) | omega | (have zz_ := fz_z (by assumption); omega) | (split <;> omega) | (exact rNMp.grow (k := rR σ 7) (σ := s12) (by assumption) (by assumption) (by assumption) (by omega) (by omega) (by assumption) (by assumption)) | done)), ?_⟩
          intro s89 Ws89 e89_0 e89_1 e89_2 e89_3 e89_4 e89_5 e89_6 e89_7 e89_8 e89_9 e89_10 e89_11 e89_12 e89_13 e89_14 e89_15 e89_16 R89 q89
          have q89 := dig_bad q89 (by (try simp only [Ks12]); omega)
          obtain ⟨q89_1, q89_2⟩ := q89
          (try simp only [Ks12] at q89_1 q89_2 e89_0 e89_1 e89_2 e89_3 e89_4 e89_5 e89_6 e89_7 e89_8 e89_9 e89_10 e89_11 e89_12 e89_13 e89_14 e89_15 e89_16 R89)
          have Ks89 : rR s89 7 = rR σ 7 := by first | assumption | ((try simp only [rR_sF, rR_sA, rR_sT, rR_sL] at e89_0 e89_1 e89_2 e89_3 e89_4 e89_5 e89_6 e89_7 e89_8 e89_9 e89_10 e89_11 e89_12 e89_13 e89_14 e89_15 e89_16 R89); omega)
          have zr89 := fz_rng s89
          have zc89 : fz s89 = 0 → fz s12 = 0 := fun hf => by omega
          have A89 : Im (fz s89 = 0) (RG σ s89 (rR σ 7) 0) := fun hf => RG.trk hp_2 (I12_11 (zc89 hf)) R89 (Or.inr (Or.inl rfl))
          have Ku14 : Im (fz s89 = 0) (GK g g12 (rF σ (rR σ 7) 7) (rF s89 (rR σ 7) 7) 0) := fun hf => GK.trans (KA12 (zc89 hf)) (GK.up (N := rF s12 (rR σ 7) 7) (N' := rF s89 (rR σ 7) 7) (c := 0) (by first | assumption | omega | (simp only [rF_sT, rF_sA]; omega))) (Or.inr (Or.inl rfl))
          have Gu15 : Im (fz s89 = 0) (GS s89 (rR σ 7) g12) := fun hf => GS.mv hp_2 (G12 (zc89 hf)) R89 (by first | assumption | omega | (simp only [rF_sT, rF_sA]; omega)) (by first | (exact Int.le_of_eq (Eq.symm (by assumption))) | omega | (simp only [rF_sT, rF_sA]; omega))
          have rNMp_89 := e89_0 I12_9; clear e89_0
          have TPRp_89 := e89_1 TPRp_12; clear e89_1
          have PNp_89 := e89_2 I12_10; clear e89_2
          exact (by (try simp only [post_X14_readString_g, Ks89]); (all_goals (repeat' (first | with_reducible intro _ | with_reducible apply And.intro | with_reducible refine Exists.intro g12 ?_ | with_reducible refine Im.and ?_ ?_))); all_goals (first | assumption | trivial | ((with_reducible refine Im.i fun hf_ => ?_); first | exact (A89 hf_) | exact (Gu15 hf_) | exact (Ku14 hf_) | exact ok1.i | (exact LI.z (fun h => absurd h (by decide))) | (exact absurd hf_ (by omega)) | omega) | omega | (have zz_ := fz_z (by assumption); omega) | (split <;> omega) | (exact rNMp.grow (k := rR σ 7) (σ := s12) (by assumption) (by assumption) (by assumption) (by omega) (by omega) (by assumption) (by assumption)) | done))
  · refine ⟨(by (try simp only [Ks12]); (all_goals (repeat' (first | with_reducible intro _ | with_reducible apply And.intro | with_reducible refine Exists.intro g12 ?_ | with_reducible refine Im.and ?_ ?_))); all_goals (first | assumption | trivial | ((with_reducible refine Im.i fun hf_ => ?_); first | exact (I12_11 hf_) | exact (G12 hf_) | exact (KA12 hf_) | exact ok1.i | (exact LI.z (fun h => absurd h (by decide))) | (exact absurd hf_ (by omega)) | omega) | omega | (have zz_ := fz_z (by assumption); omega) | (split <;> omega) | (exact rNMp.grow (k := rR σ 7) (σ := s12) (by assumption) (by assumption) (by assumption) (by omega) (by omega) (by assumption) (by assumption)) | done)), ?_⟩
    intro hr_; unfold rng at hr_
    refine ⟨fun c27 => ?_, fun c27 => ?_⟩
    · refine ⟨fun c52 => ?_, fun c52 => ?_⟩
      · refine ⟨fun c73 => ?_, fun c73 => ?_⟩
        · intro hr_; unfold rng at hr_
          refine ⟨(by (try simp only [pre_X14_bad, Ks12]); (all_goals (repeat' (first | with_reducible intro _ | with_reducible apply And.intro | with_reducible refine Exists.intro g12 ?_ | with_reducible refine Im.and ?_ ?_))); all_goals (first | assumption | trivial | ((with_reducible refine Im.i fun hf_ => ?_); first | exact (I12_11 hf_) | exact (G12 hf_) | exact (KA12 hf_) | exact ok1.i | (exact LI.z (fun h => absurd h (by decide))) | (exact absurd hf_ (by omega)) | omega) | omega | (have zz_ := fz_z (by assumption); omega) | (split <;> omega) | (exact rNMp.grow (k := rR σ 7) (σ := s12) (by assumption) (by assumption) (by assumption) (by omega) (by omega) (by assumption) (by assumption)) | done)), ?_⟩
          intro s89 Ws89 e89_0 e89_1 e89_2 e89_3 e89_4 e89_5 e89_6 e89_7 e89_8 e89_9 e89_10 e89_11 e89_12 e89_13 e89_14 e89_15 e89_16 R89 q89
          have q89 := dig_bad q89 (by (try simp only [Ks12]); omega)
          obtain ⟨q89_1, q89_2⟩ := q89
          (try simp only [Ks12] at q89_1 q89_2 e89_0 e89_1 e89_2 e89_3 e89_4 e89_5 e89_6 e89_7 e89_8 e89_9 e89_10 e89_11 e89_12 e89_13 e89_14 e89_15 e89_16 R89)
          have Ks89 : rR s89 7 = rR σ 7 := by first | assumption | ((try simp only [rR_sF, rR_sA, rR_sT, rR_sL] at e89_0 e89_1 e89_2 e89_3 e89_4 e89_5 e89_6 e89_7 e89_8 e89_9 e89_10 e89_11 e89_12 e89_13 e89_14 e89_15 e89_16 R89); omega)
          have zr89 := fz_rng s89
          have zc89 : fz s89 = 0 → fz s12 = 0 := fun hf => by omega
          have A89 : Im (fz s89 = 0) (RG σ s89 (rR σ 7) 0) := fun hf => RG.trk hp_2 (I12_11 (zc89 hf)) R89 (Or.inr (Or.inl rfl))
          have Ku16 : Im (fz s89 = 0) (GK g g12 (rF σ (rR σ 7) 7) (rF s89 (rR σ 7) 7) 0) := fun hf => GK.trans (KA12 (zc89 hf)) (GK.up (N := rF s12 (rR σ 7) 7) (N' := rF s89 (rR σ 7) 7) (c := 0) (by first | assumption | omega | (simp only [rF_sT, rF_sA]; omega))) (Or.inr (Or.inl rfl))
          have Gu17 : Im (fz s89 = 0) (GS s89 (rR σ 7) g12) := fun hf => GS.mv hp_2 (G12 (zc89 hf)) R89 (by first | assumption | omega | (simp only [rF_sT, rF_sA]; omega)) (by first | (exact Int.le_of_eq (Eq.symm (by assumption))) | omega | (simp only [rF_sT, rF_sA]; omega))
          have rNMp_89 := e89_0 I12_9; clear e89_0
          have TPRp_89 := e89_1 TPRp_12; clear e89_1
          have PNp_89 := e89_2 I12_10; clear e89_2
          exact (by (try simp only [post_X14_readString_g, Ks89]); (all_goals (repeat' (first | with_reducible intro _ | with_reducible apply And.intro | with_reducible refine Exists.intro g12 ?_ | with_reducible refine Im.and ?_ ?_))); all_goals (first | assumption | trivial | ((with_reducible refine Im.i fun hf_ => ?_); first | exact (A89 hf_) | exact (Gu17 hf_) | exact (Ku16 hf_) | exact ok1.i | (exact LI.z (fun h => absurd h (by decide))) | (exact absurd hf_ (by omega)) | omega) | omega | (have zz_ := fz_z (by assumption); omega) | (split <;> omega) | (exact rNMp.grow (k := rR σ 7) (σ := s12) (by assumption) (by assumption) (by assumption) (by omega) (by omega) (by assumption) (by assumption)) | done))
        · refine ⟨(by (try simp only [Ks12]); (all_goals (repeat' (first | with_reducible intro _ | with_reducible apply And.intro | with_reducible refine Exists.intro g12 ?_ | with_reducible refine Im.and ?_ ?_))); all_goals (first | assumption | trivial | ((with_reducible refine Im.i fun hf_ => ?_); first | exact (I12_11 hf_) | exact (G12 hf_) | exact (KA12 hf_) | exact ok1.i | (exact LI.z (fun h => absurd h (by decide))) | (exact absurd hf_ (by omega)) | omega) | omega | (have zz_ := fz_z (by assumption); omega) | (split <;> omega) | (exact rNMp.grow (k := rR σ 7) (σ := s12) (by assumption) (by assumption) (by assumption) (by omega) (by omega) (by assumption) (by assumption)) | done)), ?_⟩
          intro hr_; unfold rng at hr_
          refine ⟨(by (try simp only [pre_X14_bad, Ks12]); (all_goals (repeat' (first | with_reducible intro _ | with_reducible apply And.intro | with_reducible refine Exists.intro g12 ?_ | with_reducible refine Im.and ?_ ?_))); all_goals (first | assumption | trivial | ((with_reducible refine Im.i fun hf_ => ?_); first | exact (I12_11 hf_) | exact (G12 hf_) | exact (KA12 hf_) | exact ok1.i | (exact LI.z (fun h => absurd h (by decide))) | (exact absurd hf_ (by omega)) | omega) | omega | (have zz_ := fz_z (by assumption); omega) | (split <;> omega) | (exact rNMp.grow (k := rR σ 7) (σ := s12) (by assumption) (by assumption) (by assumption) (by omega) (by omega) (by assumption) (by assumption)) | done)), ?_⟩
          intro s89 Ws89 e89_0 e89_1 e89_2 e89_3 e89_4 e89_5 e89_6 e89_7 e89_8 e89_9 e89_10 e89_11 e89_12 e89_13 e89_14 e89_15 e89_16 R89 q89
          have q89 := dig_bad q89 (by (try simp only [Ks12]); omega)
          obtain ⟨q89_1, q89_2⟩ := q89
          (try simp only [Ks12] at q89_1 q89_2 e89_0 e89_1 e89_2 e89_3 e89_4 e89_5 e89_6 e89_7 e89_8 e89_9 e89_10 e89_11 e89_12 e89_13 e89_14 e89_15 e89_16 R89)
          have Ks89 : rR s89 7 = rR σ 7 := by first | assumption | ((try simp only [rR_sF, rR_sA, rR_sT, rR_sL] at e89_0 e89_1 e89_2 e89_3 e89_4 e89_5 e89_6 e89_7 e89_8 e89_9 e89_10 e89_11 e89_12 e89_13 e89_14 e89_15 e89_16 R89); omega)
          have zr89 := fz_rng s89
          have zc89 : fz s89 = 0 → fz s12 = 0 := fun hf => by omega
          have A89 : Im (fz s89 = 0) (RG σ s89 (rR σ 7) 0) := fun hf => RG.trk hp_2 (I12_11 (zc89 hf)) R89 (Or.inr (Or.inl rfl))
          have Ku18 : Im (fz s89 = 0) (GK g g12 (rF σ (rR σ 7) 7) (rF s89 (rR σ 7) 7) 0) := fun hf => GK.trans (KA12 (zc89 hf)) (GK.up (N := rF s12 (rR σ 7) 7) (N' := rF s89 (rR σ 7) 7) (c := 0) (by first | assumption | omega | (simp only [rF_sT, rF_sA]; omega))) (Or.inr (Or.inl rfl))
          have Gu19 : Im (fz s89 = 0) (GS s89 (rR σ 7) g12) := fun hf => GS.mv hp_2 (G12 (zc89 hf)) R89 (by first | assumption | omega | (simp only [rF_sT, rF_sA]; omega)) (by first | (exact Int.le_of_eq (Eq.symm (by assumption))) | omega | (simp only [rF_sT, rF_sA]; omega))
          have rNMp_89 := e89_0 I12_9; clear e89_0
          have TPRp_89 := e89_1 TPRp_12; clear e89_1
          have PNp_89 := e89_2 I12_10; clear e89_2
          exact (by (try simp only [post_X14_readString_g, Ks89]); (all_goals (repeat' (first | with_reducible intro _ | with_reducible apply And.intro | with_reducible refine Exists.intro g12 ?_ | with_reducible refine Im.and ?_ ?_))); all_goals (first | assumption | trivial | ((with_reducible refine Im.i fun hf_ => ?_); first | exact (A89 hf_) | exact (Gu19 hf_) | exact (Ku18 hf_) | exact ok1.i | (exact LI.z (fun h => absurd h (by decide))) | (exact absurd hf_ (by omega)) | omega) | omega | (have zz_ := fz_z (by assumption); omega) | (split <;> omega) | (exact rNMp.grow (k := rR σ 7) (σ := s12) (by assumption) (by assumption) (by assumption) (by omega) (by omega) (by assumption) (by assumption)) | done))
      · refine ⟨(by (try simp only [Ks12]); (all_goals (repeat' (first | with_reducible intro _ | with_reducible apply And.intro | with_reducible refine Exists.intro g12 ?_ | with_reducible refine Im.and ?_ ?_))); all_goals (first | assumption | trivial | ((with_reducible refine Im.i fun hf_ => ?_); first | exact (I12_11 hf_) | exact (G12 hf_) | exact (KA12 hf_) | exact ok1.i | (exact LI.z (fun h => absurd h (by decide))) | (exact absurd hf_ (by omega)) | omega) | omega | (have zz_ := fz_z (by assumption); omega) | (split <;> omega) | (exact rNMp.grow (k := rR σ 7) (σ := s12) (by assumption) (by assumption) (by assumption) (by omega) (by omega) (by assumption) (by assumption)) | done)), ?_⟩
        refine ⟨fun c63 => ?_, fun c63 => ?_⟩
        · intro hr_; unfold rng at hr_
          refine ⟨(by (try simp only [rng, Ks12]); (all_goals (repeat' (first | with_reducible intro _ | with_reducible apply And.intro | with_reducible refine Exists.intro g12 ?_ | with_reducible refine Im.and ?_ ?_))); all_goals (first | assumption | trivial | ((with_reducible refine Im.i fun hf_ => ?_); first | exact (I12_11 hf_) | exact (G12 hf_) | exact (KA12 hf_) | exact ok1.i | (exact LI.z (fun h => absurd h (by decide))) | (exact absurd hf_ (by omega)) | omega) | omega | (have zz_ := fz_z (by assumption); omega) | (split <;> omega) | (exact rNMp.grow (k := rR σ 7) (σ := s12) (by assumption) (by assumption) (by assumption) (by omega) (by omega) (by assumption) (by assumption)) | done)), ?_⟩
          refine ⟨(by (try simp only [pre_X14_keepString_t, Ks12]); (all_goals (repeat' (first | with_reducible intro _ | with_reducible apply And.intro | with_reducible refine Exists.intro g12 ?_ | with_reducible refine Im.and ?_ ?_))); all_goals (first | assumption | trivial | ((with_reducible refine Im.i fun hf_ => ?_); first | exact (I12_11 hf_) | exact (G12 hf_) | exact (KA12 hf_) | exact ok1.i | (exact LI.z (fun h => absurd h (by decide))) | (exact absurd hf_ (by omega)) | omega) | omega | (have zz_ := fz_z (by assumption); omega) | (split <;> omega) | (exact rNMp.grow (k := rR σ 7) (σ := s12) (by assumption) (by assumption) (by assumption) (by omega) (by omega) (by assumption) (by assumption)) | done)), ?_⟩
          intro v107 s107 hv107 Ws107 e107_0 e107_1 e107_2 e107_3 e107_4 e107_5 e107_6 e107_7 e107_8 e107_9 e107_10 e107_11 e107_12 e107_13 e107_14 q107
          unfold rng at hv107
          unfold post_X14_keepString_t at q107
          obtain ⟨q107_1, q107_2, q107_3, q107_4, q107_5, q107_6, q107_7, q107_8, q107_9, q107_10, q107_11, q107_12⟩ := q107
          (try simp only [Ks12] at q107_1 q107_2 q107_3 q107_4 q107_5 q107_6 q107_7 q107_8 q107_9 q107_10 q107_11 q107_12 e107_0 e107_1 e107_2 e107_3 e107_4 e107_5 e107_6 e107_7 e107_8 e107_9 e107_10 e107_11 e107_12 e107_13 e107_14)
          have Ks107 : rR s107 7 = rR σ 7 := by first | assumption | ((try simp only [rR_sF, rR_sA, rR_sT, rR_sL] at e107_0 e107_1 e107_2 e107_3 e107_4 e107_5 e107_6 e107_7 e107_8 e107_9 e107_10 e107_11 e107_12 e107_13 e107_14); omega)
          have zr107 := fz_rng s107
          have zc107 : fz s107 = 0 → fz s12 = 0 := fun hf => by omega
          have A107 : Im (fz s107 = 0) (RG σ s107 (rR σ 7) 0) := fun hf => RG.trk hp_2 (I12_11 (zc107 hf)) q107_5 (Or.inr (Or.inl rfl))
          obtain ⟨g107, X107⟩ := EN_30 (P := fz s107 = 0) (rF s12 0 29) (rF s12 0 31) hp_2 (fun hf => G12 (zc107 hf)) (fun hf => q107_5) q107_1 q107_2 q107_6 rfl rfl q107_11 (fun hf => by (try simp only [rF_sT, rF_sA]); (repeat' (with_reducible apply And.intro)) <;> first | trivial | omega)
          have Ku20 : Im (fz s107 = 0) (GK g g107 (rF σ (rR σ 7) 7) (rF s107 (rR σ 7) 7) 0) := fun hf => GK.gs (KA12 (zc107 hf)) (X107 hf).2.1
          have Gu21 : Im (fz s107 = 0) _ := fun hf => (X107 hf).1
          have O107 : Im (fz s107 = 0) _ := fun hf => (X107 hf).2.2.1
          have TPRp_107 := e107_0 TPRp_12; clear e107_0
          refine ⟨(by (try simp only [rng, Ks107]); (all_goals (repeat' (first | with_reducible intro _ | with_reducible apply And.intro | with_reducible refine Exists.intro g107 ?_ | with_reducible refine Im.and ?_ ?_))); all_goals (first | assumption | trivial | ((with_reducible refine Im.i fun hf_ => ?_); first | exact (A107 hf_) | exact (Gu21 hf_) | exact (Ku20 hf_) | exact (O107 hf_).cst | exact ok1.i | (exact LI.z (fun h => absurd h (by decide))) | (exact absurd hf_ (by omega)) | omega) | omega | (have zz_ := fz_z (by assumption); omega) | (split <;> omega) | (exact rNMp.grow (k := rR σ 7) (σ := s12) (by assumption) (by assumption) (by assumption) (by omega) (by omega) (by assumption) (by assumption)) | done)), ?_⟩
          obtain ⟨gu22, Xu23⟩ := EC_30 (P := fz s107 = 0) (y12_3 + 1) Gu21 O107 (fun hf => by omega)
          have O107u24 : Im (fz s107 = 0) _ := fun hf => (Xu23 hf).2.1
          have Ku25 : Im (fz s107 = 0) (GK g gu22 (rF σ (rR σ 7) 7) (rF s107 (rR σ 7) 7) 0) := fun hf => GK.kc (Ku20 hf) (Xu23 hf).2.2 (by omega)
          have Gu26 : Im (fz s107 = 0) _ := fun hf => (Xu23 hf).1
          exact (by (try simp only [post_X14_readString_g, reduceIte, and_true, true_and, and_false, false_and, and_self, Nat.reduceEqDiff, fz_sF29, rF_sF, rA_sF, rR_sF, tr_sF, rNMp_sF, PNp_sF, GS_F29, OP_F29, NR_F29, LI_F29, RG_l29, RG_r29, TPRp_sF29, WNp_sF29, VMp_sF29, KYp_sF29, PPp_sF29, WFp_sF29, CCp_sF29, rk_n0 hp_2, Ks107]); (all_goals (repeat' (first | with_reducible intro _ | with_reducible apply And.intro | with_reducible refine Exists.intro gu22 ?_ | with_reducible refine Im.and ?_ ?_))); all_goals (first | assumption | trivial | ((with_reducible refine Im.i fun hf_ => ?_); first | exact (A107 hf_) | exact (Gu26 hf_) | exact (Ku25 hf_) | exact (O107u24 hf_).cst | exact ok1.i | (exact LI.z (fun h => absurd h (by decide))) | (exact absurd hf_ (by omega)) | omega) | omega | (have zz_ := fz_z (by assumption); omega) | (split <;> omega) | (exact rNMp.grow (k := rR σ 7) (σ := s12) (by assumption) (by assumption) (by assumption) (by omega) (by omega) (by assumption) (by assumption)) | done))
        · refine ⟨fun c73 => ?_, fun c73 => ?_⟩
          · intro hr_; unfold rng at hr_
            refine ⟨(by (try simp only [pre_X14_bad, Ks12]); (all_goals (repeat' (first | with_reducible intro _ | with_reducible apply And.intro | with_reducible refine Exists.intro g12 ?_ | with_reducible refine Im.and ?_ ?_))); all_goals (first | assumption | trivial | ((with_reducible refine Im.i fun hf_ => ?_); first | exact (I12_11 hf_) | exact (G12 hf_) | exact (KA12 hf_) | exact ok1.i | (exact LI.z (fun h => absurd h (by decide))) | (exact absurd hf_ (by omega)) | omega) | omega | (have zz_ := fz_z (by assumption); omega) | (split <;> omega) | (exact rNMp.grow (k := rR σ 7) (σ := s12) (by assumption) (by assumption) (by assumption) (by omega) (by omega) (by assumption) (by assumption)) | done)), ?_⟩
            intro s89 Ws89 e89_0 e89_1 e89_2 e89_3 e89_4 e89_5 e89_6 e89_7 e89_8 e89_9 e89_10 e89_11 e89_12 e89_13 e89_14 e89_15 e89_16 R89 q89
            have q89 := dig_bad q89 (by (try simp only [Ks12]); omega)
            obtain ⟨q89_1, q89_2⟩ := q89
            (try simp only [Ks12] at q89_1 q89_2 e89_0 e89_1 e89_2 e89_3 e89_4 e89_5 e89_6 e89_7 e89_8 e89_9 e89_10 e89_11 e89_12 e89_13 e89_14 e89_15 e89_16 R89)
            have Ks89 : rR s89 7 = rR σ 7 := by first | assumption | ((try simp only [rR_sF, rR_sA, rR_sT, rR_sL] at e89_0 e89_1 e89_2 e89_3 e89_4 e89_5 e89_6 e89_7 e89_8 e89_9 e89_10 e89_11 e89_12 e89_13 e89_14 e89_15 e89_16 R89); omega)
            have zr89 := fz_rng s89
            have zc89 : fz s89 = 0 → fz s12 = 0 := fun hf => by omega
            have A89 : Im (fz s89 = 0) (RG σ s89 (rR σ 7) 0) := fun hf => RG.trk hp_2 (I12_11 (zc89 hf)) R89 (Or.inr (Or.inl rfl))
            have Ku27 : Im (fz s89 = 0) (GK g g12 (rF σ (rR σ 7) 7) (rF s89 (rR σ 7) 7) 0) := fun hf => GK.trans (KA12 (zc89 hf)) (GK.up (N := rF s12 (rR σ 7) 7) (N' := rF s89 (rR σ 7) 7) (c := 0) (by first | assumption | omega | (simp only [rF_sT, rF_sA]; omega))) (Or.inr (Or.inl rfl))
            have Gu28 : Im (fz s89 = 0) (GS s89 (rR σ 7) g12) := fun hf => GS.mv hp_2 (G12 (zc89 hf)) R89 (by first | assumption | omega | (simp only [rF_sT, rF_sA]; omega)) (by first | (exact Int.le_of_eq (Eq.symm (by assumption))) | omega | (simp only [rF_sT, rF_sA]; omega))
            have rNMp_89 := e89_0 I12_9; clear e89_0
            have TPRp_89 := e89_1 TPRp_12; clear e89_1
            have PNp_89 := e89_2 I12_10; clear e89_2
            exact (by (try simp only [post_X14_readString_g, Ks89]); (all_goals (repeat' (first | with_reducible intro _ | with_reducible apply And.intro | with_reducible refine Exists.intro g12 ?_ | with_reducible refine Im.and ?_ ?_))); all_goals (first | assumption | trivial | ((with_reducible refine Im.i fun hf_ => ?_); first | exact (A89 hf_) | exact (Gu28 hf_) | exact (Ku27 hf_) | exact ok1.i | (exact LI.z (fun h => absurd h (by decide))) | (exact absurd hf_ (by omega)) | omega) | omega | (have zz_ := fz_z (by assumption); omega) | (split <;> omega) | (exact rNMp.grow (k := rR σ 7) (σ := s12) (by assumption) (by assumption) (by assumption) (by omega) (by omega) (by assumption) (by assumption)) | done))
          · refine ⟨(by (try simp only [Ks12]); (all_goals (repeat' (first | with_reducible intro _ | with_reducible apply And.intro | with_reducible refine Exists.intro g12 ?_ | with_reducible refine Im.and ?_ ?_))); all_goals (first | assumption | trivial | ((with_reducible refine Im.i fun hf_ => ?_); first | exact (I12_11 hf_) | exact (G12 hf_) | exact (KA12 hf_) | exact ok1.i | (exact LI.z (fun h => absurd h (by decide))) | (exact absurd hf_ (by omega)) | omega) | omega | (have zz_ := fz_z (by assumption); omega) | (split <;> omega) | (exact rNMp.grow (k := rR σ 7) (σ := s12) (by assumption) (by assumption) (by assumption) (by omega) (by omega) (by assumption) (by assumption)) | done)), ?_⟩
            intro hr_; unfold rng at hr_
            refine ⟨(by (try simp only [pre_X14_bad, Ks12]); (all_goals (repeat' (first | with_reducible intro _ | with_reducible apply And.intro | with_reducible refine Exists.intro g12 ?_ | with_reducible refine Im.and ?_ ?_))); all_goals (first | assumption | trivial | ((with_reducible refine Im.i fun hf_ => ?_); first | exact (I12_11 hf_) | exact (G12 hf_) | exact (KA12 hf_) | exact ok1.i | (exact LI.z (fun h => absurd h (by decide))) | (exact absurd hf_ (by omega)) | omega) | omega | (have zz_ := fz_z (by assumption); omega) | (split <;> omega) | (exact rNMp.grow (k := rR σ 7) (σ := s12) (by assumption) (by assumption) (by assumption) (by omega) (by omega) (by assumption) (by assumption)) | done)), ?_⟩
            intro s89 Ws89 e89_0 e89_1 e89_2 e89_3 e89_4 e89_5 e89_6 e89_7 e89_8 e89_9 e89_10 e89_11 e89_12 e89_13 e89_14 e89_15 e89_16 R89 q89
            have q89 := dig_bad q89 (by (try simp only [Ks12]); omega)
            obtain ⟨q89_1, q89_2⟩ := q89
            (try simp only [Ks12] at q89_1 q89_2 e89_0 e89_1 e89_2 e89_3 e89_4 e89_5 e89_6 e89_7 e89_8 e89_9 e89_10 e89_11 e89_12 e89_13 e89_14 e89_15 e89_16 R89)
            have Ks89 : rR s89 7 = rR σ 7 := by first | assumption | ((try simp only [rR_sF, rR_sA, rR_sT, rR_sL] at e89_0 e89_1 e89_2 e89_3 e89_4 e89_5 e89_6 e89_7 e89_8 e89_9 e89_10 e89_11 e89_12 e89_13 e89_14 e89_15 e89_16 R89); omega)
            have zr89 := fz_rng s89
            have zc89 : fz s89 = 0 → fz s12 = 0 := fun hf => by omega
            have A89 : Im (fz s89 = 0) (RG σ s89 (rR σ 7) 0) := fun hf => RG.trk hp_2 (I12_11 (zc89 hf)) R89 (Or.inr (Or.inl rfl))
            have Ku29 : Im (fz s89 = 0) (GK g g12 (rF σ (rR σ 7) 7) (rF s89 (rR σ 7) 7) 0) := fun hf => GK.trans (KA12 (zc89 hf)) (GK.up (N := rF s12 (rR σ 7) 7) (N' := rF s89 (rR σ 7) 7) (c := 0) (by first | assumption | omega | (simp only [rF_sT, rF_sA]; omega))) (Or.inr (Or.inl rfl))
            have Gu30 : Im (fz s89 = 0) (GS s89 (rR σ 7) g12) := fun hf => GS.mv hp_2 (G12 (zc89 hf)) R89 (by first | assumption | omega | (simp only [rF_sT, rF_sA]; omega)) (by first | (exact Int.le_of_eq (Eq.symm (by assumption))) | omega | (simp only [rF_sT, rF_sA]; omega))
            have rNMp_89 := e89_0 I12_9; clear e89_0
            have TPRp_89 := e89_1 TPRp_12; clear e89_1
            have PNp_89 := e89_2 I12_10; clear e89_2
            exact (by (try simp only [post_X14_readString_g, Ks89]); (all_goals (repeat' (first | with_reducible intro _ | with_reducible apply And.intro | with_reducible refine Exists.intro g12 ?_ | with_reducible refine Im.and ?_ ?_))); all_goals (first | assumption | trivial | ((with_reducible refine Im.i fun hf_ => ?_); first | exact (A89 hf_) | exact (Gu30 hf_) | exact (Ku29 hf_) | exact ok1.i | (exact LI.z (fun h => absurd h (by decide))) | (exact absurd hf_ (by omega)) | omega) | omega | (have zz_ := fz_z (by assumption); omega) | (split <;> omega) | (exact rNMp.grow (k := rR σ 7) (σ := s12) (by assumption) (by assumption) (by assumption) (by omega) (by omega) (by assumption) (by assumption)) | done))
    · refine ⟨(by (try simp only [Ks12]); (all_goals (repeat' (first | with_reducible intro _ | with_reducible apply And.intro | with_reducible refine Exists.intro g12 ?_ | with_reducible refine Im.and ?_ ?_))); all_goals (first | assumption | trivial | ((with_reducible refine Im.i fun hf_ => ?_); first | exact (I12_11 hf_) | exact (G12 hf_) | exact (KA12 hf_) | exact ok1.i | (exact LI.z (fun h => absurd h (by decide))) | (exact absurd hf_ (by omega)) | omega) | omega | (have zz_ := fz_z (by assumption); omega) | (split <;> omega) | (exact rNMp.grow (k := rR σ 7) (σ := s12) (by assumption) (by assumption) (by assumption) (by omega) (by omega) (by assumption) (by assumption)) | done)), ?_⟩
      refine ⟨fun c38 => ?_, fun c38 => ?_⟩
      · refine ⟨fun c52 => ?_, fun c52 => ?_⟩
        · refine ⟨fun c73 => ?_, fun c73 => ?_⟩
          · intro hr_; unfold rng at hr_
            refine ⟨(by (try simp only [pre_X14_bad, Ks12]); (all_goals (repeat' (first | with_reducible intro _ | with_reducible apply And.intro | with_reducible refine Exists.intro g12 ?_ | with_reducible refine Im.and ?_ ?_))); all_goals (first | assumption | trivial | ((with_reducible refine Im.i fun hf_ => ?_); first | exact (I12_11 hf_) | exact (G12 hf_) | exact (KA12 hf_) | exact ok1.i | (exact LI.z (fun h => absurd h (by decide))) | (exact absurd hf_ (by omega)) | omega) | omega | (have zz_ := fz_z (by assumption); omega) | (split <;> omega) | (exact rNMp.grow (k := rR σ 7) (σ := s12) (by assumption) (by assumption) (by assumption) (by omega) (by omega) (by assumption) (by assumption)) | done)), ?_⟩
            intro s89 Ws89 e89_0 e89_1 e89_2 e89_3 e89_4 e89_5 e89_6 e89_7 e89_8 e89_9 e89_10 e89_11 e89_12 e89_13 e89_14 e89_15 e89_16 R89 q89
            have q89 := dig_bad q89 (by (try simp only [Ks12]); omega)
            obtain ⟨q89_1, q89_2⟩ := q89
            (try simp only [Ks12] at q89_1 q89_2 e89_0 e89_1 e89_2 e89_3 e89_4 e89_5 e89_6 e89_7 e89_8 e89_9 e89_10 e89_11 e89_12 e89_13 e89_14 e89_15 e89_16 R89)
            have Ks89 : rR s89 7 = rR σ 7 := by first | assumption | ((try simp only [rR_sF, rR_sA, rR_sT, rR_sL] at e89_0 e89_1 e89_2 e89_3 e89_4 e89_5 e89_6 e89_7 e89_8 e89_9 e89_10 e89_11 e89_12 e89_13 e89_14 e89_15 e89_16 R89); omega)
            have zr89 := fz_rng s89
            have zc89 : fz s89 = 0 → fz s12 = 0 := fun hf => by omega
            have A89 : Im (fz s89 = 0) (RG σ s89 (rR σ 7) 0) := fun hf => RG.trk hp_2 (I12_11 (zc89 hf)) R89 (Or.inr (Or.inl rfl))
            have Ku31 : Im (fz s89 = 0) (GK g g12 (rF σ (rR σ 7) 7) (rF s89 (rR σ 7) 7) 0) := fun hf => GK.trans (KA12 (zc89 hf)) (GK.up (N := rF s12 (rR σ 7) 7) (N' := rF s89 (rR σ 7) 7) (c := 0) (by first | assumption | omega | (simp only [rF_sT, rF_sA]; omega))) (Or.inr (Or.inl rfl))
            have Gu32 : Im (fz s89 = 0) (GS s89 (rR σ 7) g12) := fun hf => GS.mv hp_2 (G12 (zc89 hf)) R89 (by first | assumption | omega | (simp only [rF_sT, rF_sA]; omega)) (by first | (exact Int.le_of_eq (Eq.symm (by assumption))) | omega | (simp only [rF_sT, rF_sA]; omega))
            have rNMp_89 := e89_0 I12_9; clear e89_0
            have TPRp_89 := e89_1 TPRp_12; clear e89_1
            have PNp_89 := e89_2 I12_10; clear e89_2
            exact (by (try simp only [post_X14_readString_g, Ks89]); (all_goals (repeat' (first | with_reducible intro _ | with_reducible apply And.intro | with_reducible refine Exists.intro g12 ?_ | with_reducible refine Im.and ?_ ?_))); all_goals (first | assumption | trivial | ((with_reducible refine Im.i fun hf_ => ?_); first | exact (A89 hf_) | exact (Gu32 hf_) | exact (Ku31 hf_) | exact ok1.i | (exact LI.z (fun h => absurd h (by decide))) | (exact absurd hf_ (by omega)) | omega) | omega | (have zz_ := fz_z (by assumption); omega) | (split <;> omega) | (exact rNMp.grow (k := rR σ 7) (σ := s12) (by assumption) (by assumption) (by assumption) (by omega) (by omega) (by assumption) (by assumption)) | done))
          · refine ⟨(by (try simp only [Ks12]); (all_goals (repeat' (first | with_reducible intro _ | with_reducible apply And.intro | with_reducible refine Exists.intro g12 ?_ | with_reducible refine Im.and ?_ ?_))); all_goals (first | assumption | trivial | ((with_reducible refine Im.i fun hf_ => ?_); first | exact (I12_11 hf_) | exact (G12 hf_) | exact (KA12 hf_) | exact ok1.i | (exact LI.z (fun h => absurd h (by decide))) | (exact absurd hf_ (by omega)) | omega) | omega | (have zz_ := fz_z (by assumption); omega) | (split <;> omega) | (exact rNMp.grow (k := rR σ 7) (σ := s12) (by assumption) (by assumption) (by assumption) (by omega) (by omega) (by assumption) (by assumption)) | done)), ?_⟩
            intro hr_; unfold rng at hr_
            refine ⟨(by (try simp only [pre_X14_bad, Ks12]); (all_goals (repeat' (first | with_reducible intro _ | with_reducible apply And.intro | with_reducible refine Exists.intro g12 ?_ | with_reducible refine Im.and ?_ ?_))); all_goals (first | assumption | trivial | ((with_reducible refine Im.i fun hf_ => ?_); first | exact (I12_11 hf_) | exact (G12 hf_) | exact (KA12 hf_) | exact ok1.i | (exact LI.z (fun h => absurd h (by decide))) | (exact absurd hf_ (by omega)) | omega) | omega | (have zz_ := fz_z (by assumption); omega) | (split <;> omega) | (exact rNMp.grow (k := rR σ 7) (σ := s12) (by assumption) (by assumption) (by assumption) (by omega) (by omega) (by assumption) (by assumption)) | done)), ?_⟩
            intro s89 Ws89 e89_0 e89_1 e89_2 e89_3 e89_4 e89_5 e89_6 e89_7 e89_8 e89_9 e89_10 e89_11 e89_12 e89_13 e89_14 e89_15 e89_16 R89 q89
            have q89 := dig_bad q89 (by (try simp only [Ks12]); omega)
            obtain ⟨q89_1, q89_2⟩ := q89
            (try simp only [Ks12] at q89_1 q89_2 e89_0 e89_1 e89_2 e89_3 e89_4 e89_5 e89_6 e89_7 e89_8 e89_9 e89_10 e89_11 e89_12 e89_13 e89_14 e89_15 e89_16 R89)
            have Ks89 : rR s89 7 = rR σ 7 := by first | assumption | ((try simp only [rR_sF, rR_sA, rR_sT, rR_sL] at e89_0 e89_1 e89_2 e89_3 e89_4 e89_5 e89_6 e89_7 e89_8 e89_9 e89_10 e89_11 e89_12 e89_13 e89_14 e89_15 e89_16 R89); omega)
            have zr89 := fz_rng s89
            have zc89 : fz s89 = 0 → fz s12 = 0 := fun hf => by omega
            have A89 : Im (fz s89 = 0) (RG σ s89 (rR σ 7) 0) := fun hf => RG.trk hp_2 (I12_11 (zc89 hf)) R89 (Or.inr (Or.inl rfl))
            have Ku33 : Im (fz s89 = 0) (GK g g12 (rF σ (rR σ 7) 7) (rF s89 (rR σ 7) 7) 0) := fun hf => GK.trans (KA12 (zc89 hf)) (GK.up (N := rF s12 (rR σ 7) 7) (N' := rF s89 (rR σ 7) 7) (c := 0) (by first | assumption | omega | (simp only [rF_sT, rF_sA]; omega))) (Or.inr (Or.inl rfl))
            have Gu34 : Im (fz s89 = 0) (GS s89 (rR σ 7) g12) := fun hf => GS.mv hp_2 (G12 (zc89 hf)) R89 (by first | assumption | omega | (simp only [rF_sT, rF_sA]; omega)) (by first | (exact Int.le_of_eq (Eq.symm (by assumption))) | omega | (simp only [rF_sT, rF_sA]; omega))
            have rNMp_89 := e89_0 I12_9; clear e89_0
            have TPRp_89 := e89_1 TPRp_12; clear e89_1
            have PNp_89 := e89_2 I12_10; clear e89_2
            exact (by (try simp only [post_X14_readString_g, Ks89]); (all_goals (repeat' (first | with_reducible intro _ | with_reducible apply And.intro | with_reducible refine Exists.intro g12 ?_ | with_reducible refine Im.and ?_ ?_))); all_goals (first | assumption | trivial | ((with_reducible refine Im.i fun hf_ => ?_); first | exact (A89 hf_) | exact (Gu34 hf_) | exact (Ku33 hf_) | exact ok1.i | (exact LI.z (fun h => absurd h (by decide))) | (exact absurd hf_ (by omega)) | omega) | omega | (have zz_ := fz_z (by assumption); omega) | (split <;> omega) | (exact rNMp.grow (k := rR σ 7) (σ := s12) (by assumption) (by assumption) (by assumption) (by omega) (by omega) (by assumption) (by assumption)) | done))
        · refine ⟨(by (try simp only [Ks12]); (all_goals (repeat' (first | with_reducible intro _ | with_reducible apply And.intro | with_reducible refine Exists.intro g12 ?_ | with_reducible refine Im.and ?_ ?_))); all_goals (first | assumption | trivial | ((with_reducible refine Im.i fun hf_ => ?_); first | exact (I12_11 hf_) | exact (G12 hf_) | exact (KA12 hf_) | exact ok1.i | (exact LI.z (fun h => absurd h (by decide))) | (exact absurd hf_ (by omega)) | omega) | omega | (have zz_ := fz_z (by assumption); omega) | (split <;> omega) | (exact rNMp.grow (k := rR σ 7) (σ := s12) (by assumption) (by assumption) (by assumption) (by omega) (by omega) (by assumption) (by assumption)) | done)), ?_⟩
          refine ⟨fun c63 => ?_, fun c63 => ?_⟩
          · intro hr_; unfold rng at hr_
            refine ⟨(by (try simp only [rng, Ks12]); (all_goals (repeat' (first | with_reducible intro _ | with_reducible apply And.intro | with_reducible refine Exists.intro g12 ?_ | with_reducible refine Im.and ?_ ?_))); all_goals (first | assumption | trivial | ((with_reducible refine Im.i fun hf_ => ?_); first | exact (I12_11 hf_) | exact (G12 hf_) | exact (KA12 hf_) | exact ok1.i | (exact LI.z (fun h => absurd h (by decide))) | (exact absurd hf_ (by omega)) | omega) | omega | (have zz_ := fz_z (by assumption); omega) | (split <;> omega) | (exact rNMp.grow (k := rR σ 7) (σ := s12) (by assumption) (by assumption) (by assumption) (by omega) (by omega) (by assumption) (by assumption)) | done)), ?_⟩
            refine ⟨(by (try simp only [pre_X14_keepString_t, Ks12]); (all_goals (repeat' (first | with_reducible intro _ | with_reducible apply And.intro | with_reducible refine Exists.intro g12 ?_ | with_reducible refine Im.and ?_ ?_))); all_goals (first | assumption | trivial | ((with_reducible refine Im.i fun hf_ => ?_); first | exact (I12_11 hf_) | exact (G12 hf_) | exact (KA12 hf_) | exact ok1.i | (exact LI.z (fun h => absurd h (by decide))) | (exact absurd hf_ (by omega)) | omega) | omega | (have zz_ := fz_z (by assumption); omega) | (split <;> omega) | (exact rNMp.grow (k := rR σ 7) (σ := s12) (by assumption) (by assumption) (by assumption) (by omega) (by omega) (by assumption) (by assumption)) | done)), ?_⟩
            intro v107 s107 hv107 Ws107 e107_0 e107_1 e107_2 e107_3 e107_4 e107_5 e107_6 e107_7 e107_8 e107_9 e107_10 e107_11 e107_12 e107_13 e107_14 q107
            unfold rng at hv107
            unfold post_X14_keepString_t at q107
            obtain ⟨q107_1, q107_2, q107_3, q107_4, q107_5, q107_6, q107_7, q107_8, q107_9, q107_10, q107_11, q107_12⟩ := q107
            (try simp only [Ks12] at q107_1 q107_2 q107_3 q107_4 q107_5 q107_6 q107_7 q107_8 q107_9 q107_10 q107_11 q107_12 e107_0 e107_1 e107_2 e107_3 e107_4 e107_5 e107_6 e107_7 e107_8 e107_9 e107_10 e107_11 e107_12 e107_13 e107_14)
            have Ks107 : rR s107 7 = rR σ 7 := by first | assumption | ((try simp only [rR_sF, rR_sA, rR_sT, rR_sL] at e107_0 e107_1 e107_2 e107_3 e107_4 e107_5 e107_6 e107_7 e107_8 e107_9 e107_10 e107_11 e107_12 e107_13 e107_14); omega)
            have zr107 := fz_rng s107
            have zc107 : fz s107 = 0 → fz s12 = 0 := fun hf => by omega
            have A107 : Im (fz s107 = 0) (RG σ s107 (rR σ 7) 0) := fun hf => RG.trk hp_2 (I12_11 (zc107 hf)) q107_5 (Or.inr (Or.inl rfl))
            obtain ⟨g107, X107⟩ := EN_30 (P := fz s107 = 0) (rF s12 0 29) (rF s12 0 31) hp_2 (fun hf => G12 (zc107 hf)) (fun hf => q107_5) q107_1 q107_2 q107_6 rfl rfl q107_11 (fun hf => by (try simp only [rF_sT, rF_sA]); (repeat' (with_reducible apply And.intro)) <;> first | trivial | omega)
            have Ku35 : Im (fz s107 = 0) (GK g g107 (rF σ (rR σ 7) 7) (rF s107 (rR σ 7) 7) 0) := fun hf => GK.gs (KA12 (zc107 hf)) (X107 hf).2.1
            have Gu36 : Im (fz s107 = 0) _ := fun hf => (X107 hf).1
            have O107 : Im (fz s107 = 0) _ := fun hf => (X107 hf).2.2.1
            have TPRp_107 := e107_0 TPRp_12; clear e107_0
            refine ⟨(by (try simp only [rng, Ks107]); (all_goals (repeat' (first | with_reducible intro _ | with_reducible apply And.intro | with_reducible refine Exists.intro g107 ?_ | with_reducible refine Im.and ?_ ?_))); all_goals (first | assumption | trivial | ((with_reducible refine Im.i fun hf_ => ?_); first | exact (A107 hf_) | exact (Gu36 hf_) | exact (Ku35 hf_) | exact (O107 hf_).cst | exact ok1.i | (exact LI.z (fun h => absurd h (by decide))) | (exact absurd hf_ (by omega)) | omega) | omega | (have zz_ := fz_z (by assumption); omega) | (split <;> omega) | (exact rNMp.grow (k := rR σ 7) (σ := s12) (by assumption) (by assumption) (by assumption) (by omega) (by omega) (by assumption) (by assumption)) | done)), ?_⟩
            obtain ⟨gu37, Xu38⟩ := EC_30 (P := fz s107 = 0) (y12_3 + 1) Gu36 O107 (fun hf => by omega)
            have O107u39 : Im (fz s107 = 0) _ := fun hf => (Xu38 hf).2.1
            have Ku40 : Im (fz s107 = 0) (GK g gu37 (rF σ (rR σ 7) 7) (rF s107 (rR σ 7) 7) 0) := fun hf => GK.kc (Ku35 hf) (Xu38 hf).2.2 (by omega)
            have Gu41 : Im (fz s107 = 0) _ := fun hf => (Xu38 hf).1
            exact (by (try simp only [post_X14_readString_g, reduceIte, and_true, true_and, and_false, false_and, and_self, Nat.reduceEqDiff, fz_sF29, rF_sF, rA_sF, rR_sF, tr_sF, rNMp_sF, PNp_sF, GS_F29, OP_F29, NR_F29, LI_F29, RG_l29, RG_r29, TPRp_sF29, WNp_sF29, VMp_sF29, KYp_sF29, PPp_sF29, WFp_sF29, CCp_sF29, rk_n0 hp_2, Ks107]); (all_goals (repeat' (first | with_reducible intro _ | with_reducible apply And.intro | with_reducible refine Exists.intro gu37 ?_ | with_reducible refine Im.and ?_ ?_))); all_goals (first | assumption | trivial | ((with_reducible refine Im.i fun hf_ => ?_); first | exact (A107 hf_) | exact (Gu41 hf_) | exact (Ku40 hf_) | exact (O107u39 hf_).cst | exact ok1.i | (exact LI.z (fun h => absurd h (by decide))) | (exact absurd hf_ (by omega)) | omega) | omega | (have zz_ := fz_z (by assumption); omega) | (split <;> omega) | (exact rNMp.grow (k := rR σ 7) (σ := s12) (by assumption) (by assumption) (by assumption) (by omega) (by omega) (by assumption) (by assumption)) | done))
          · refine ⟨fun c73 => ?_, fun c73 => ?_⟩
            · intro hr_; unfold rng at hr_
              refine ⟨(by (try simp only [pre_X14_bad, Ks12]); (all_goals (repeat' (first | with_reducible intro _ | with_reducible apply And.intro | with_reducible refine Exists.intro g12 ?_ | with_reducible refine Im.and ?_ ?_))); all_goals (first | assumption | trivial | ((with_reducible refine Im.i fun hf_ => ?_); first | exact (I12_11 hf_) | exact (G12 hf_) | exact (KA12 hf_) | exact ok1.i | (exact LI.z (fun h => absurd h (by decide))) | (exact absurd hf_ (by omega)) | omega) | omega | (have zz_ := fz_z (by assumption); omega) | (split <;> omega) | (exact rNMp.grow (k := rR σ 7) (σ := s12) (by assumption) (by assumption) (by assumption) (by omega) (by omega) (by assumption) (by assumption)) | done)), ?_⟩
              intro s89 Ws89 e89_0 e89_1 e89_2 e89_3 e89_4 e89_5 e89_6 e89_7 e89_8 e89_9 e89_10 e89_11 e89_12 e89_13 e89_14 e89_15 e89_16 R89 q89
              have q89 := dig_bad q89 (by (try simp only [Ks12]); omega)
              obtain ⟨q89_1, q89_2⟩ := q89
              (try simp only [Ks12] at q89_1 q89_2 e89_0 e89_1 e89_2 e89_3 e89_4 e89_5 e89_6 e89_7 e89_8 e89_9 e89_10 e89_11 e89_12 e89_13 e89_14 e89_15 e89_16 R89)
              have Ks89 : rR s89 7 = rR σ 7 := by first | assumption | ((try simp only [rR_sF, rR_sA, rR_sT, rR_sL] at e89_0 e89_1 e89_2 e89_3 e89_4 e89_5 e89_6 e89_7 e89_8 e89_9 e89_10 e89_11 e89_12 e89_13 e89_14 e89_15 e89_16 R89); omega)
              have zr89 := fz_rng s89
              have zc89 : fz s89 = 0 → fz s12 = 0 := fun hf => by omega
              have A89 : Im (fz s89 = 0) (RG σ s89 (rR σ 7) 0) := fun hf => RG.trk hp_2 (I12_11 (zc89 hf)) R89 (Or.inr (Or.inl rfl))
              have Ku42 : Im (fz s89 = 0) (GK g g12 (rF σ (rR σ 7) 7) (rF s89 (rR σ 7) 7) 0) := fun hf => GK.trans (KA12 (zc89 hf)) (GK.up (N := rF s12 (rR σ 7) 7) (N' := rF s89 (rR σ 7) 7) (c := 0) (by first | assumption | omega | (simp only [rF_sT, rF_sA]; omega))) (Or.inr (Or.inl rfl))
              have Gu43 : Im (fz s89 = 0) (GS s89 (rR σ 7) g12) := fun hf => GS.mv hp_2 (G12 (zc89 hf)) R89 (by first | assumption | omega | (simp only [rF_sT, rF_sA]; omega)) (by first | (exact Int.le_of_eq (Eq.symm (by assumption))) | omega | (simp only [rF_sT, rF_sA]; omega))
              have rNMp_89 := e89_0 I12_9; clear e89_0
              have TPRp_89 := e89_1 TPRp_12; clear e89_1
              have PNp_89 := e89_2 I12_10; clear e89_2
              exact (by (try simp only [post_X14_readString_g, Ks89]); (all_goals (repeat' (first | with_reducible intro _ | with_reducible apply And.intro | with_reducible refine Exists.intro g12 ?_ | with_reducible refine Im.and ?_ ?_))); all_goals (first | assumption | trivial | ((with_reducible refine Im.i fun hf_ => ?_); first | exact (A89 hf_) | exact (Gu43 hf_) | exact (Ku42 hf_) | exact ok1.i | (exact LI.z (fun h => absurd h (by decide))) | (exact absurd hf_ (by omega)) | omega) | omega | (have zz_ := fz_z (by assumption); omega) | (split <;> omega) | (exact rNMp.grow (k := rR σ 7) (σ := s12) (by assumption) (by assumption) (by assumption) (by omega) (by omega) (by assumption) (by assumption)) | done))
            · refine ⟨(by (try simp only [Ks12]); (all_goals (repeat' (first | with_reducible intro _ | with_reducible apply And.intro | with_reducible refine Exists.intro g12 ?_ | with_reducible refine Im.and ?_ ?_))); all_goals (first | assumption | trivial | ((with_reducible refine Im.i fun hf_ => ?_); first | exact (I12_11 hf_) | exact (G12 hf_) | exact (KA12 hf_) | exact ok1.i | (exact LI.z (fun h => absurd h (by decide))) | (exact absurd hf_ (by omega)) | omega) | omega | (have zz_ := fz_z (by assumption); omega) | (split <;> omega) | (exact rNMp.grow (k := rR σ 7) (σ := s12) (by assumption) (by assumption) (by assumption) (by omega) (by omega) (by assumption) (by assumption)) | done)), ?_⟩
              intro hr_; unfold rng at hr_
              refine ⟨(by (try simp only [pre_X14_bad, Ks12]); (all_goals (repeat' (first | with_reducible intro _ | with_reducible apply And.intro | with_reducible refine Exists.intro g12 ?_ | with_reducible refine Im.and ?_ ?_))); all_goals (first | assumption | trivial | ((with_reducible refine Im.i fun hf_ => ?_); first | exact (I12_11 hf_) | exact (G12 hf_) | exact (KA12 hf_) | exact ok1.i | (exact LI.z (fun h => absurd h (by decide))) | (exact absurd hf_ (by omega)) | omega) | omega | (have zz_ := fz_z (by assumption); omega) | (split <;> omega) | (exact rNMp.grow (k := rR σ 7) (σ := s12) (by assumption) (by assumption) (by assumption) (by omega) (by omega) (by assumption) (by assumption)) | done)), ?_⟩
              intro s89 Ws89 e89_0 e89_1 e89_2 e89_3 e89_4 e89_5 e89_6 e89_7 e89_8 e89_9 e89_10 e89_11 e89_12 e89_13 e89_14 e89_15 e89_16 R89 q89
              have q89 := dig_bad q89 (by (try simp only [Ks12]); omega)
              obtain ⟨q89_1, q89_2⟩ := q89
              (try simp only [Ks12] at q89_1 q89_2 e89_0 e89_1 e89_2 e89_3 e89_4 e89_5 e89_6 e89_7 e89_8 e89_9 e89_10 e89_11 e89_12 e89_13 e89_14 e89_15 e89_16 R89)
              have Ks89 : rR s89 7 = rR σ 7 := by first | assumption | ((try simp only [rR_sF, rR_sA, rR_sT, rR_sL] at e89_0 e89_1 e89_2 e89_3 e89_4 e89_5 e89_6 e89_7 e89_8 e89_9 e89_10 e89_11 e89_12 e89_13 e89_14 e89_15 e89_16 R89); omega)
              have zr89 := fz_rng s89
              have zc89 : fz s89 = 0 → fz s12 = 0 := fun hf => by omega
              have A89 : Im (fz s89 = 0) (RG σ s89 (rR σ 7) 0) := fun hf => RG.trk hp_2 (I12_11 (zc89 hf)) R89 (Or.inr (Or.inl rfl))
              have Ku44 : Im (fz s89 = 0) (GK g g12 (rF σ (rR σ 7) 7) (rF s89 (rR σ 7) 7) 0) := fun hf => GK.trans (KA12 (zc89 hf)) (GK.up (N := rF s12 (rR σ 7) 7) (N' := rF s89 (rR σ 7) 7) (c := 0) (by first | assumption | omega | (simp only [rF_sT, rF_sA]; omega))) (Or.inr (Or.inl rfl))
              have Gu45 : Im (fz s89 = 0) (GS s89 (rR σ 7) g12) := fun hf => GS.mv hp_2 (G12 (zc89 hf)) R89 (by first | assumption | omega | (simp only [rF_sT, rF_sA]; omega)) (by first | (exact Int.le_of_eq (Eq.symm (by assumption))) | omega | (simp only [rF_sT, rF_sA]; omega))
              have rNMp_89 := e89_0 I12_9; clear e89_0
              have TPRp_89 := e89_1 TPRp_12; clear e89_1
              have PNp_89 := e89_2 I12_10; clear e89_2
              exact (by (try simp only [post_X14_readString_g, Ks89]); (all_goals (repeat' (first | with_reducible intro _ | with_reducible apply And.intro | with_reducible refine Exists.intro g12 ?_ | with_reducible refine Im.and ?_ ?_))); all_goals (first | assumption | trivial | ((with_reducible refine Im.i fun hf_ => ?_); first | exact (A89 hf_) | exact (Gu45 hf_) | exact (Ku44 hf_) | exact ok1.i | (exact LI.z (fun h => absurd h (by decide))) | (exact absurd hf_ (by omega)) | omega) | omega | (have zz_ := fz_z (by assumption); omega) | (split <;> omega) | (exact rNMp.grow (k := rR σ 7) (σ := s12) (by assumption) (by assumption) (by assumption) (by omega) (by omega) (by assumption) (by assumption)) | done))
      · refine ⟨(by (try simp only [rng, Ks12]); (all_goals (repeat' (first | with_reducible intro _ | with_reducible apply And.intro | with_reducible refine Exists.intro g12 ?_ | with_reducible refine Im.and ?_ ?_))); all_goals (first | assumption | trivial | ((with_reducible refine Im.i fun hf_ => ?_); first | exact (I12_11 hf_) | exact (G12 hf_) | exact (KA12 hf_) | exact ok1.i | (exact LI.z (fun h => absurd h (by decide))) | (exact absurd hf_ (by omega)) | omega) | omega | (have zz_ := fz_z (by assumption); omega) | (split <;> omega) | (exact rNMp.grow (k := rR σ 7) (σ := s12) (by assumption) (by assumption) (by assumption) (by omega) (by omega) (by assumption) (by assumption)) | done)), ?_⟩
        exact (by (try simp only [inv_X14_readString_g_12, mu_X14_readString_g_12, mu_X14_readString_g_12, Ks12]); (all_goals (repeat' (first | with_reducible intro _ | with_reducible apply And.intro | with_reducible refine Exists.intro g12 ?_ | with_reducible refine Im.and ?_ ?_))); all_goals (first | assumption | trivial | ((with_reducible refine Im.i fun hf_ => ?_); first | exact (I12_11 hf_) | exact (G12 hf_) | exact (KA12 hf_) | exact ok1.i | (exact LI.z (fun h => absurd h (by decide))) | (exact absurd hf_ (by omega)) | omega) | omega | (have zz_ := fz_z (by assumption); omega) | (split <;> omega) | (exact rNMp.grow (k := rR σ 7) (σ := s12) (by assumption) (by assumption) (by assumption) (by omega) (by omega) (by assumption) (by assumption)) | done))
set_option maxHeartbeats 20000000 in
theorem vX14_readString_g_12m (σ : rS) (x1 : Int) (gg : Nat) (g : Nat → Int → Int) (hwf : rWF σ) (hx1 : rng x1) (hp : pre_X14_readString_g σ x1 gg g) : VC_X14_readString_g_12m σ x1 gg g := by
  unfold pre_X14_readString_g at hp
  obtain ⟨hp_1, hp_2, hp_3, hp_4, hp_5, hp_6, hp_7, hp_8, hp_9, hp_10, hp_11, hp_12, hp_13, hp_14, hp_15, hp_16, hp_17, hp_18, hp_19, hp_20⟩ := hp
  unfold rng at hx1
  subst hp_1
  have zr0 := fz_rng σ
  unfold VC_X14_readString_g_12m
  (try simp only [inv_X14_readString_g_12, mu_X14_readString_g_12]); (all_goals (repeat' (first | with_reducible intro _ | with_reducible apply And.intro))); all_goals (first | assumption | omega | grind (splits := 20))
theorem wX14_readString_g (l : Launch) (G : zG) (κ : Nat → Nat) (σ : rS) (x1 : Int) (gg : Nat) (g : Nat → Int → Int) (hwf : rWF σ) (hx1 : rng x1) (Q : Int → rS → Prop) (h : VC_X14_readString_g σ x1 gg g Q) (h_12 : VC_X14_readString_g_12 σ x1 gg g Q) (h_12m : VC_X14_readString_g_12m σ x1 gg g) : rMi l G κ yX14_readString cX14_readString 5 .int 3 50 [.ref (κ 0), iv x1] σ (fun x s => rKeep 0x23001c00 0x280 0 0x17f 0 σ s ∧ Q x s) := by
  refine zMi.intro (by decide +kernel) (Nat.le_of_ble_eq_true rfl) (fun X hC hR => ?_)
  obtain ⟨g0, h⟩ := h
  refine z_aload_n hC (pc := 0) 0 dX14_readString_0 rfl rfl ?_
  obtain ⟨p10, h⟩ := h
  refine y_callVi hC (pc := 1) (As := []) (kX14_place l G κ σ  hwf  p10) dmX14_place zf14 rOb_0 dX14_readString_1 zw3103 rfl rfl (Nat.le_of_ble_eq_true rfl) (Nat.le_of_ble_eq_true rfl) (Nat.le_of_ble_eq_true rfl) (Nat.le_of_ble_eq_true rfl) (Nat.le_of_ble_eq_true rfl) (kk := fun v1 s1 hv1 Ws1 qs1 => ?_)
  obtain ⟨es1, qs1⟩ := qs1
  have es1 := es1.symm
  subst es1
  have h := h v1 hv1 qs1
  refine z_istore_n hC (pc := 4) (lv' := [(2, iv v1), (0, .ref (κ 0)), (1, iv x1)]) dX14_readString_4 rfl (by decide) rfl ?_
  refine z_aload_n hC (pc := 5) 1 dX14_readString_5 rfl rfl ?_
  refine y_get hC (pc := 6) zf14 rOb_0 29 (v := iv (rF σ 0 29)) dX14_readString_6 zw2496 (rv_i (Or.inl rfl) rfl) (kk := ?_)
  have h := h (hwf.f _ _)
  refine z_iconst hC (pc := 9) (v := Int32.ofInt 1) dX14_readString_9 (by decide) ?_
  refine y_iadd hC (pc := 10) (v := ((rF σ 0 29) + 1)) dX14_readString_10 rfl ?_
  refine z_istore_n hC (pc := 11) (lv' := [(3, iv ((rF σ 0 29) + 1)), (2, iv v1), (0, .ref (κ 0)), (1, iv x1)]) dX14_readString_11 rfl (by decide) rfl ?_
  have j12 : ∀ (d12 : Nat), ∀ (s12 : rS) (y12_2 : Int) (y12_3 : Int), rWF s12 → rng y12_2 → rng y12_3 → rKeep 0x23001c00 0x280 0 0x17f 0 σ s12 → inv_X14_readString_g_12 σ x1 gg g s12 y12_2 y12_3 → (mu_X14_readString_g_12 σ x1 gg g s12 y12_2 y12_3) ≤ d12 → zS X G 5 (rW G κ s12) [(0, .ref (κ 0)), (1, iv x1), (2, iv y12_2), (3, iv y12_3)] 0 0 12 [] := by
    intro d12
    induction d12 with
    | zero =>
      intro s12 y12_2 y12_3 Ws12 hy12_2 hy12_3 kJ hI hmu
      exact absurd hmu (by have := h_12m  s12 y12_2 y12_3 Ws12 hy12_2 hy12_3 (TPRp.keep kJ rfl rfl rfl) (kJ.R rfl) (kJ.F rfl) (kJ.F rfl) (kJ.F rfl) (kJ.F rfl) (kJ.F rfl) (kJ.FG g0 rfl) (kJ.FG g0 rfl) (kJ.FG g0 rfl) (fun i => kJ.AG (f := 10) g0 (by decide) rfl) (fun i => kJ.AG (f := 11) g0 (by decide) rfl) hI; omega)
    | succ d12 ih12 =>
      intro s12 y12_2 y12_3 Ws12 hy12_2 hy12_3 kJ hI hmu12
      have h := h_12  s12 y12_2 y12_3 Ws12 hy12_2 hy12_3 (TPRp.keep kJ rfl rfl rfl) (kJ.R rfl) (kJ.F rfl) (kJ.F rfl) (kJ.F rfl) (kJ.F rfl) (kJ.F rfl) (kJ.FG g0 rfl) (kJ.FG g0 rfl) (kJ.FG g0 rfl) (fun i => kJ.AG (f := 10) g0 (by decide) rfl) (fun i => kJ.AG (f := 11) g0 (by decide) rfl) hI
      refine z_iload_n hC (pc := 12) 3 dX14_readString_12 rfl rfl ?_
      refine z_aload_n hC (pc := 13) 0 dX14_readString_13 rfl rfl ?_
      refine y_get hC (pc := 14) zf14 rOb_0 28 (v := iv (rF s12 0 28)) dX14_readString_14 zw2495 (rv_i (Or.inl rfl) rfl) (kk := ?_)
      have h := h (Ws12.f _ _)
      obtain ⟨hT, hF⟩ := h
      refine y_icmp_ge hC (pc := 17) 47 hy12_3 (Ws12.f _ _) dX14_readString_17 (by decide) (fun c => ?_) (fun c => ?_)
      · have h := hT c
        refine z_iload_n hC (pc := 47) 3 dX14_readString_47 rfl rfl ?_
        refine z_aload_n hC (pc := 48) 0 dX14_readString_48 rfl rfl ?_
        refine y_get hC (pc := 49) zf14 rOb_0 28 (v := iv (rF s12 0 28)) dX14_readString_49 zw2495 (rv_i (Or.inl rfl) rfl) (kk := ?_)
        obtain ⟨hT, hF⟩ := h
        refine y_icmp_ge hC (pc := 52) 66 hy12_3 (Ws12.f _ _) dX14_readString_52 (by decide) (fun c => ?_) (fun c => ?_)
        · have h := hT c
          refine z_aload_n hC (pc := 66) 0 dX14_readString_66 rfl rfl ?_
          refine z_iconst hC (pc := 67) (v := Int32.ofInt 1) dX14_readString_67 (by decide) ?_
          refine z_iload_n hC (pc := 68) 3 dX14_readString_68 rfl rfl ?_
          refine z_aload_n hC (pc := 69) 0 dX14_readString_69 rfl rfl ?_
          refine y_get hC (pc := 70) zf14 rOb_0 28 (v := iv (rF s12 0 28)) dX14_readString_70 zw2495 (rv_i (Or.inl rfl) rfl) (kk := ?_)
          obtain ⟨hT, hF⟩ := h
          refine y_icmp_ge hC (pc := 73) 85 hy12_3 (Ws12.f _ _) dX14_readString_73 (by decide) (fun c => ?_) (fun c => ?_)
          · have h := hT c
            refine z_aload_n hC (pc := 85) 0 dX14_readString_85 rfl rfl ?_
            refine y_get hC (pc := 86) zf14 rOb_0 30 (v := iv (rF s12 0 30)) dX14_readString_86 zw2497 (rv_i (Or.inl rfl) rfl) (kk := ?_)
            have h := h (Ws12.f _ _)
            obtain ⟨p11, h⟩ := h
            refine y_callVv hC (pc := 89) (As := [iv 1, iv (rF s12 0 30)]) (kX14_bad l G κ s12 1 (rF s12 0 30) Ws12 (r_lit rfl) (Ws12.f _ _) p11) dmX14_bad zf14 rOb_0 dX14_readString_89 zw3000 rfl rfl (Nat.le_of_ble_eq_true rfl) (Nat.le_of_ble_eq_true rfl) (Nat.le_of_ble_eq_true rfl) (Nat.le_of_ble_eq_true rfl) (Nat.le_of_ble_eq_true rfl) (kk := fun s89 Ws89 qs89 => ?_)
            have h := h s89 Ws89 (rNMp.keep qs89.1 rfl rfl rfl rfl rfl) (TPRp.keep qs89.1 rfl rfl rfl) (PNp.keep qs89.1 rfl rfl rfl rfl rfl) (qs89.1.R rfl) (qs89.1.F rfl) (qs89.1.F rfl) (qs89.1.F rfl) (qs89.1.F rfl) (qs89.1.F rfl) (qs89.1.F rfl) (qs89.1.FG g0 rfl) (qs89.1.FG g0 rfl) (qs89.1.FG g0 rfl) (qs89.1.FG g0 rfl) (qs89.1.FG g0 rfl) (fun i => qs89.1.AG (f := 10) g0 (by decide) rfl) (fun i => qs89.1.AG (f := 11) g0 (by decide) rfl) (RG.keep (c0 := 0) qs89.1 rfl rfl rfl rfl rfl rfl rfl rfl rfl rfl rfl rfl rfl rfl rfl rfl rfl rfl) qs89.2
            refine z_iconst hC (pc := 92) (v := Int32.ofInt 0) dX14_readString_92 (by decide) ?_
            exact y_reti hR dX14_readString_93 rfl (r_lit rfl) Ws89 (Nat.le_of_ble_eq_true rfl) (Nat.le_of_ble_eq_true rfl) ⟨(rKeep.tr (rKeep.tr rKeep.rf kJ rfl rfl rfl rfl rfl) qs89.1 rfl rfl rfl rfl rfl), h⟩
          · have h := hF c
            refine z_aload_n hC (pc := 76) 0 dX14_readString_76 rfl rfl ?_
            refine y_get hC (pc := 77) zf14 rOb_0 27 (v := .ref (κ 1027)) dX14_readString_77 zw2494 (rv_c rfl) (kk := ?_)
            refine z_iload_n hC (pc := 80) 3 dX14_readString_80 rfl rfl ?_
            obtain ⟨b12, h⟩ := h
            refine y_iald hC (pc := 81) (rAr_m rfl) dX14_readString_81 b12 (v := (rA s12 1027 y12_3)) rfl (kk := ?_)
            have h := h (Ws12.a _ _)
            refine z_goto hC (pc := 82) 89 dX14_readString_82 (by decide) ?_
            obtain ⟨p13, h⟩ := h
            refine y_callVv hC (pc := 89) (As := [iv 1, iv (rA s12 1027 y12_3)]) (kX14_bad l G κ s12 1 (rA s12 1027 y12_3) Ws12 (r_lit rfl) (Ws12.a _ _) p13) dmX14_bad zf14 rOb_0 dX14_readString_89 zw3000 rfl rfl (Nat.le_of_ble_eq_true rfl) (Nat.le_of_ble_eq_true rfl) (Nat.le_of_ble_eq_true rfl) (Nat.le_of_ble_eq_true rfl) (Nat.le_of_ble_eq_true rfl) (kk := fun s89 Ws89 qs89 => ?_)
            have h := h s89 Ws89 (rNMp.keep qs89.1 rfl rfl rfl rfl rfl) (TPRp.keep qs89.1 rfl rfl rfl) (PNp.keep qs89.1 rfl rfl rfl rfl rfl) (qs89.1.R rfl) (qs89.1.F rfl) (qs89.1.F rfl) (qs89.1.F rfl) (qs89.1.F rfl) (qs89.1.F rfl) (qs89.1.F rfl) (qs89.1.FG g0 rfl) (qs89.1.FG g0 rfl) (qs89.1.FG g0 rfl) (qs89.1.FG g0 rfl) (qs89.1.FG g0 rfl) (fun i => qs89.1.AG (f := 10) g0 (by decide) rfl) (fun i => qs89.1.AG (f := 11) g0 (by decide) rfl) (RG.keep (c0 := 0) qs89.1 rfl rfl rfl rfl rfl rfl rfl rfl rfl rfl rfl rfl rfl rfl rfl rfl rfl rfl) qs89.2
            refine z_iconst hC (pc := 92) (v := Int32.ofInt 0) dX14_readString_92 (by decide) ?_
            exact y_reti hR dX14_readString_93 rfl (r_lit rfl) Ws89 (Nat.le_of_ble_eq_true rfl) (Nat.le_of_ble_eq_true rfl) ⟨(rKeep.tr (rKeep.tr rKeep.rf kJ rfl rfl rfl rfl rfl) qs89.1 rfl rfl rfl rfl rfl), h⟩
        · have h := hF c
          refine z_aload_n hC (pc := 55) 0 dX14_readString_55 rfl rfl ?_
          refine y_get hC (pc := 56) zf14 rOb_0 26 (v := .ref (κ 1026)) dX14_readString_56 zw2493 (rv_c rfl) (kk := ?_)
          refine z_iload_n hC (pc := 59) 3 dX14_readString_59 rfl rfl ?_
          obtain ⟨b14, h⟩ := h
          refine y_bald hC (pc := 60) (rAr_m rfl) dX14_readString_60 b14 (v := (rA s12 1026 y12_3)) rfl (kk := ?_)
          have h := h (Ws12.a _ _)
          refine z_bipush hC (pc := 61) (v := Int32.ofInt 10) dX14_readString_61 (by decide) ?_
          obtain ⟨hT, hF⟩ := h
          refine y_icmp_ne hC (pc := 63) 94 (Ws12.a _ _) (r_lit rfl) dX14_readString_63 (by decide) (fun c => ?_) (fun c => ?_)
          · have h := hT c
            refine z_aload_n hC (pc := 94) 0 dX14_readString_94 rfl rfl ?_
            refine z_aload_n hC (pc := 95) 0 dX14_readString_95 rfl rfl ?_
            refine y_get hC (pc := 96) zf14 rOb_0 26 (v := .ref (κ 1026)) dX14_readString_96 zw2493 (rv_c rfl) (kk := ?_)
            refine z_aload_n hC (pc := 99) 0 dX14_readString_99 rfl rfl ?_
            refine y_get hC (pc := 100) zf14 rOb_0 29 (v := iv (rF s12 0 29)) dX14_readString_100 zw2496 (rv_i (Or.inl rfl) rfl) (kk := ?_)
            have h := h (Ws12.f _ _)
            refine z_iconst hC (pc := 103) (v := Int32.ofInt 1) dX14_readString_103 (by decide) ?_
            refine y_iadd hC (pc := 104) (v := ((rF s12 0 29) + 1)) dX14_readString_104 rfl ?_
            refine z_iload_n hC (pc := 105) 3 dX14_readString_105 rfl rfl ?_
            refine z_iload_n hC (pc := 106) 2 dX14_readString_106 rfl rfl ?_
            obtain ⟨r15, h⟩ := h
            obtain ⟨p16, h⟩ := h
            refine y_callVi hC (pc := 107) (As := [.ref (κ 1026), iv ((rF s12 0 29) + 1), iv y12_3, iv y12_2]) (kX14_keepString_t l G κ s12 1026 4001 ((rF s12 0 29) + 1) y12_3 y12_2 gg Ws12 (rAr_m rfl) r15 hy12_3 hy12_2 p16) dmX14_keepString zf14 rOb_0 dX14_readString_107 zw3214 rfl rfl (Nat.le_of_ble_eq_true rfl) (Nat.le_of_ble_eq_true rfl) (Nat.le_of_ble_eq_true rfl) (Nat.le_of_ble_eq_true rfl) (Nat.le_of_ble_eq_true rfl) (kk := fun v107 s107 hv107 Ws107 qs107 => ?_)
            have h := h v107 s107 hv107 Ws107 (TPRp.keep qs107.1 rfl rfl rfl) (qs107.1.R rfl) (qs107.1.F rfl) (qs107.1.F rfl) (qs107.1.F rfl) (qs107.1.F rfl) (qs107.1.F rfl) (qs107.1.F rfl) (qs107.1.F rfl) (qs107.1.FG g0 rfl) (qs107.1.FG g0 rfl) (qs107.1.FG g0 rfl) (fun i => qs107.1.AG (f := 10) g0 (by decide) rfl) (fun i => qs107.1.AG (f := 11) g0 (by decide) rfl) (fz_keep qs107.1 rfl) qs107.2
            refine z_istore hC (pc := 110) (lv' := [(4, iv v107), (0, .ref (κ 0)), (1, iv x1), (2, iv y12_2), (3, iv y12_3)]) dX14_readString_110 (by decide) rfl ?_
            refine z_aload_n hC (pc := 112) 1 dX14_readString_112 rfl rfl ?_
            refine z_iload_n hC (pc := 113) 4 dX14_readString_113 rfl rfl ?_
            refine z_iconst hC (pc := 114) (v := Int32.ofInt 1) dX14_readString_114 (by decide) ?_
            refine y_iadd hC (pc := 115) (v := (y12_3 + 1)) dX14_readString_115 rfl ?_
            obtain ⟨r17, h⟩ := h
            refine y_putI hC (pc := 116) zf14 rOb_0 29 (x := (y12_3 + 1)) dX14_readString_116 zw2496 (Or.inl rfl) rfl rfl (kk := ?_)
            have W18 := Ws107.sF (q := 0) (f := 29) (x := (y12_3 + 1)) r17
            refine z_iload hC (pc := 119) 0 dX14_readString_119 rfl ?_
            exact y_reti hR dX14_readString_121 rfl hv107 W18 (Nat.le_of_ble_eq_true rfl) (Nat.le_of_ble_eq_true rfl) ⟨(rKeep.tr (rKeep.tr (rKeep.tr rKeep.rf kJ rfl rfl rfl rfl rfl) qs107.1 rfl rfl rfl rfl rfl) (rKeep.sF0 (f := 29)) rfl rfl rfl rfl rfl), h⟩
          · have h := hF c
            refine z_aload_n hC (pc := 66) 0 dX14_readString_66 rfl rfl ?_
            refine z_iconst hC (pc := 67) (v := Int32.ofInt 1) dX14_readString_67 (by decide) ?_
            refine z_iload_n hC (pc := 68) 3 dX14_readString_68 rfl rfl ?_
            refine z_aload_n hC (pc := 69) 0 dX14_readString_69 rfl rfl ?_
            refine y_get hC (pc := 70) zf14 rOb_0 28 (v := iv (rF s12 0 28)) dX14_readString_70 zw2495 (rv_i (Or.inl rfl) rfl) (kk := ?_)
            obtain ⟨hT, hF⟩ := h
            refine y_icmp_ge hC (pc := 73) 85 hy12_3 (Ws12.f _ _) dX14_readString_73 (by decide) (fun c => ?_) (fun c => ?_)
            · have h := hT c
              refine z_aload_n hC (pc := 85) 0 dX14_readString_85 rfl rfl ?_
              refine y_get hC (pc := 86) zf14 rOb_0 30 (v := iv (rF s12 0 30)) dX14_readString_86 zw2497 (rv_i (Or.inl rfl) rfl) (kk := ?_)
              have h := h (Ws12.f _ _)
              obtain ⟨p19, h⟩ := h
              refine y_callVv hC (pc := 89) (As := [iv 1, iv (rF s12 0 30)]) (kX14_bad l G κ s12 1 (rF s12 0 30) Ws12 (r_lit rfl) (Ws12.f _ _) p19) dmX14_bad zf14 rOb_0 dX14_readString_89 zw3000 rfl rfl (Nat.le_of_ble_eq_true rfl) (Nat.le_of_ble_eq_true rfl) (Nat.le_of_ble_eq_true rfl) (Nat.le_of_ble_eq_true rfl) (Nat.le_of_ble_eq_true rfl) (kk := fun s89 Ws89 qs89 => ?_)
              have h := h s89 Ws89 (rNMp.keep qs89.1 rfl rfl rfl rfl rfl) (TPRp.keep qs89.1 rfl rfl rfl) (PNp.keep qs89.1 rfl rfl rfl rfl rfl) (qs89.1.R rfl) (qs89.1.F rfl) (qs89.1.F rfl) (qs89.1.F rfl) (qs89.1.F rfl) (qs89.1.F rfl) (qs89.1.F rfl) (qs89.1.FG g0 rfl) (qs89.1.FG g0 rfl) (qs89.1.FG g0 rfl) (qs89.1.FG g0 rfl) (qs89.1.FG g0 rfl) (fun i => qs89.1.AG (f := 10) g0 (by decide) rfl) (fun i => qs89.1.AG (f := 11) g0 (by decide) rfl) (RG.keep (c0 := 0) qs89.1 rfl rfl rfl rfl rfl rfl rfl rfl rfl rfl rfl rfl rfl rfl rfl rfl rfl rfl) qs89.2
              refine z_iconst hC (pc := 92) (v := Int32.ofInt 0) dX14_readString_92 (by decide) ?_
              exact y_reti hR dX14_readString_93 rfl (r_lit rfl) Ws89 (Nat.le_of_ble_eq_true rfl) (Nat.le_of_ble_eq_true rfl) ⟨(rKeep.tr (rKeep.tr rKeep.rf kJ rfl rfl rfl rfl rfl) qs89.1 rfl rfl rfl rfl rfl), h⟩
            · have h := hF c
              refine z_aload_n hC (pc := 76) 0 dX14_readString_76 rfl rfl ?_
              refine y_get hC (pc := 77) zf14 rOb_0 27 (v := .ref (κ 1027)) dX14_readString_77 zw2494 (rv_c rfl) (kk := ?_)
              refine z_iload_n hC (pc := 80) 3 dX14_readString_80 rfl rfl ?_
              obtain ⟨b20, h⟩ := h
              refine y_iald hC (pc := 81) (rAr_m rfl) dX14_readString_81 b20 (v := (rA s12 1027 y12_3)) rfl (kk := ?_)
              have h := h (Ws12.a _ _)
              refine z_goto hC (pc := 82) 89 dX14_readString_82 (by decide) ?_
              obtain ⟨p21, h⟩ := h
              refine y_callVv hC (pc := 89) (As := [iv 1, iv (rA s12 1027 y12_3)]) (kX14_bad l G κ s12 1 (rA s12 1027 y12_3) Ws12 (r_lit rfl) (Ws12.a _ _) p21) dmX14_bad zf14 rOb_0 dX14_readString_89 zw3000 rfl rfl (Nat.le_of_ble_eq_true rfl) (Nat.le_of_ble_eq_true rfl) (Nat.le_of_ble_eq_true rfl) (Nat.le_of_ble_eq_true rfl) (Nat.le_of_ble_eq_true rfl) (kk := fun s89 Ws89 qs89 => ?_)
              have h := h s89 Ws89 (rNMp.keep qs89.1 rfl rfl rfl rfl rfl) (TPRp.keep qs89.1 rfl rfl rfl) (PNp.keep qs89.1 rfl rfl rfl rfl rfl) (qs89.1.R rfl) (qs89.1.F rfl) (qs89.1.F rfl) (qs89.1.F rfl) (qs89.1.F rfl) (qs89.1.F rfl) (qs89.1.F rfl) (qs89.1.FG g0 rfl) (qs89.1.FG g0 rfl) (qs89.1.FG g0 rfl) (qs89.1.FG g0 rfl) (qs89.1.FG g0 rfl) (fun i => qs89.1.AG (f := 10) g0 (by decide) rfl) (fun i => qs89.1.AG (f := 11) g0 (by decide) rfl) (RG.keep (c0 := 0) qs89.1 rfl rfl rfl rfl rfl rfl rfl rfl rfl rfl rfl rfl rfl rfl rfl rfl rfl rfl) qs89.2
              refine z_iconst hC (pc := 92) (v := Int32.ofInt 0) dX14_readString_92 (by decide) ?_
              exact y_reti hR dX14_readString_93 rfl (r_lit rfl) Ws89 (Nat.le_of_ble_eq_true rfl) (Nat.le_of_ble_eq_true rfl) ⟨(rKeep.tr (rKeep.tr rKeep.rf kJ rfl rfl rfl rfl rfl) qs89.1 rfl rfl rfl rfl rfl), h⟩
      · have h := hF c
        refine z_aload_n hC (pc := 20) 0 dX14_readString_20 rfl rfl ?_
        refine y_get hC (pc := 21) zf14 rOb_0 26 (v := .ref (κ 1026)) dX14_readString_21 zw2493 (rv_c rfl) (kk := ?_)
        refine z_iload_n hC (pc := 24) 3 dX14_readString_24 rfl rfl ?_
        obtain ⟨b22, h⟩ := h
        refine y_bald hC (pc := 25) (rAr_m rfl) dX14_readString_25 b22 (v := (rA s12 1026 y12_3)) rfl (kk := ?_)
        have h := h (Ws12.a _ _)
        refine z_iload_n hC (pc := 26) 1 dX14_readString_26 rfl rfl ?_
        obtain ⟨hT, hF⟩ := h
        refine y_icmp_eq hC (pc := 27) 47 (Ws12.a _ _) hx1 dX14_readString_27 (by decide) (fun c => ?_) (fun c => ?_)
        · have h := hT c
          refine z_iload_n hC (pc := 47) 3 dX14_readString_47 rfl rfl ?_
          refine z_aload_n hC (pc := 48) 0 dX14_readString_48 rfl rfl ?_
          refine y_get hC (pc := 49) zf14 rOb_0 28 (v := iv (rF s12 0 28)) dX14_readString_49 zw2495 (rv_i (Or.inl rfl) rfl) (kk := ?_)
          obtain ⟨hT, hF⟩ := h
          refine y_icmp_ge hC (pc := 52) 66 hy12_3 (Ws12.f _ _) dX14_readString_52 (by decide) (fun c => ?_) (fun c => ?_)
          · have h := hT c
            refine z_aload_n hC (pc := 66) 0 dX14_readString_66 rfl rfl ?_
            refine z_iconst hC (pc := 67) (v := Int32.ofInt 1) dX14_readString_67 (by decide) ?_
            refine z_iload_n hC (pc := 68) 3 dX14_readString_68 rfl rfl ?_
            refine z_aload_n hC (pc := 69) 0 dX14_readString_69 rfl rfl ?_
            refine y_get hC (pc := 70) zf14 rOb_0 28 (v := iv (rF s12 0 28)) dX14_readString_70 zw2495 (rv_i (Or.inl rfl) rfl) (kk := ?_)
            obtain ⟨hT, hF⟩ := h
            refine y_icmp_ge hC (pc := 73) 85 hy12_3 (Ws12.f _ _) dX14_readString_73 (by decide) (fun c => ?_) (fun c => ?_)
            · have h := hT c
              refine z_aload_n hC (pc := 85) 0 dX14_readString_85 rfl rfl ?_
              refine y_get hC (pc := 86) zf14 rOb_0 30 (v := iv (rF s12 0 30)) dX14_readString_86 zw2497 (rv_i (Or.inl rfl) rfl) (kk := ?_)
              have h := h (Ws12.f _ _)
              obtain ⟨p23, h⟩ := h
              refine y_callVv hC (pc := 89) (As := [iv 1, iv (rF s12 0 30)]) (kX14_bad l G κ s12 1 (rF s12 0 30) Ws12 (r_lit rfl) (Ws12.f _ _) p23) dmX14_bad zf14 rOb_0 dX14_readString_89 zw3000 rfl rfl (Nat.le_of_ble_eq_true rfl) (Nat.le_of_ble_eq_true rfl) (Nat.le_of_ble_eq_true rfl) (Nat.le_of_ble_eq_true rfl) (Nat.le_of_ble_eq_true rfl) (kk := fun s89 Ws89 qs89 => ?_)
              have h := h s89 Ws89 (rNMp.keep qs89.1 rfl rfl rfl rfl rfl) (TPRp.keep qs89.1 rfl rfl rfl) (PNp.keep qs89.1 rfl rfl rfl rfl rfl) (qs89.1.R rfl) (qs89.1.F rfl) (qs89.1.F rfl) (qs89.1.F rfl) (qs89.1.F rfl) (qs89.1.F rfl) (qs89.1.F rfl) (qs89.1.FG g0 rfl) (qs89.1.FG g0 rfl) (qs89.1.FG g0 rfl) (qs89.1.FG g0 rfl) (qs89.1.FG g0 rfl) (fun i => qs89.1.AG (f := 10) g0 (by decide) rfl) (fun i => qs89.1.AG (f := 11) g0 (by decide) rfl) (RG.keep (c0 := 0) qs89.1 rfl rfl rfl rfl rfl rfl rfl rfl rfl rfl rfl rfl rfl rfl rfl rfl rfl rfl) qs89.2
              refine z_iconst hC (pc := 92) (v := Int32.ofInt 0) dX14_readString_92 (by decide) ?_
              exact y_reti hR dX14_readString_93 rfl (r_lit rfl) Ws89 (Nat.le_of_ble_eq_true rfl) (Nat.le_of_ble_eq_true rfl) ⟨(rKeep.tr (rKeep.tr rKeep.rf kJ rfl rfl rfl rfl rfl) qs89.1 rfl rfl rfl rfl rfl), h⟩
            · have h := hF c
              refine z_aload_n hC (pc := 76) 0 dX14_readString_76 rfl rfl ?_
              refine y_get hC (pc := 77) zf14 rOb_0 27 (v := .ref (κ 1027)) dX14_readString_77 zw2494 (rv_c rfl) (kk := ?_)
              refine z_iload_n hC (pc := 80) 3 dX14_readString_80 rfl rfl ?_
              obtain ⟨b24, h⟩ := h
              refine y_iald hC (pc := 81) (rAr_m rfl) dX14_readString_81 b24 (v := (rA s12 1027 y12_3)) rfl (kk := ?_)
              have h := h (Ws12.a _ _)
              refine z_goto hC (pc := 82) 89 dX14_readString_82 (by decide) ?_
              obtain ⟨p25, h⟩ := h
              refine y_callVv hC (pc := 89) (As := [iv 1, iv (rA s12 1027 y12_3)]) (kX14_bad l G κ s12 1 (rA s12 1027 y12_3) Ws12 (r_lit rfl) (Ws12.a _ _) p25) dmX14_bad zf14 rOb_0 dX14_readString_89 zw3000 rfl rfl (Nat.le_of_ble_eq_true rfl) (Nat.le_of_ble_eq_true rfl) (Nat.le_of_ble_eq_true rfl) (Nat.le_of_ble_eq_true rfl) (Nat.le_of_ble_eq_true rfl) (kk := fun s89 Ws89 qs89 => ?_)
              have h := h s89 Ws89 (rNMp.keep qs89.1 rfl rfl rfl rfl rfl) (TPRp.keep qs89.1 rfl rfl rfl) (PNp.keep qs89.1 rfl rfl rfl rfl rfl) (qs89.1.R rfl) (qs89.1.F rfl) (qs89.1.F rfl) (qs89.1.F rfl) (qs89.1.F rfl) (qs89.1.F rfl) (qs89.1.F rfl) (qs89.1.FG g0 rfl) (qs89.1.FG g0 rfl) (qs89.1.FG g0 rfl) (qs89.1.FG g0 rfl) (qs89.1.FG g0 rfl) (fun i => qs89.1.AG (f := 10) g0 (by decide) rfl) (fun i => qs89.1.AG (f := 11) g0 (by decide) rfl) (RG.keep (c0 := 0) qs89.1 rfl rfl rfl rfl rfl rfl rfl rfl rfl rfl rfl rfl rfl rfl rfl rfl rfl rfl) qs89.2
              refine z_iconst hC (pc := 92) (v := Int32.ofInt 0) dX14_readString_92 (by decide) ?_
              exact y_reti hR dX14_readString_93 rfl (r_lit rfl) Ws89 (Nat.le_of_ble_eq_true rfl) (Nat.le_of_ble_eq_true rfl) ⟨(rKeep.tr (rKeep.tr rKeep.rf kJ rfl rfl rfl rfl rfl) qs89.1 rfl rfl rfl rfl rfl), h⟩
          · have h := hF c
            refine z_aload_n hC (pc := 55) 0 dX14_readString_55 rfl rfl ?_
            refine y_get hC (pc := 56) zf14 rOb_0 26 (v := .ref (κ 1026)) dX14_readString_56 zw2493 (rv_c rfl) (kk := ?_)
            refine z_iload_n hC (pc := 59) 3 dX14_readString_59 rfl rfl ?_
            obtain ⟨b26, h⟩ := h
            refine y_bald hC (pc := 60) (rAr_m rfl) dX14_readString_60 b26 (v := (rA s12 1026 y12_3)) rfl (kk := ?_)
            refine z_bipush hC (pc := 61) (v := Int32.ofInt 10) dX14_readString_61 (by decide) ?_
            obtain ⟨hT, hF⟩ := h
            refine y_icmp_ne hC (pc := 63) 94 (Ws12.a _ _) (r_lit rfl) dX14_readString_63 (by decide) (fun c => ?_) (fun c => ?_)
            · have h := hT c
              refine z_aload_n hC (pc := 94) 0 dX14_readString_94 rfl rfl ?_
              refine z_aload_n hC (pc := 95) 0 dX14_readString_95 rfl rfl ?_
              refine y_get hC (pc := 96) zf14 rOb_0 26 (v := .ref (κ 1026)) dX14_readString_96 zw2493 (rv_c rfl) (kk := ?_)
              refine z_aload_n hC (pc := 99) 0 dX14_readString_99 rfl rfl ?_
              refine y_get hC (pc := 100) zf14 rOb_0 29 (v := iv (rF s12 0 29)) dX14_readString_100 zw2496 (rv_i (Or.inl rfl) rfl) (kk := ?_)
              have h := h (Ws12.f _ _)
              refine z_iconst hC (pc := 103) (v := Int32.ofInt 1) dX14_readString_103 (by decide) ?_
              refine y_iadd hC (pc := 104) (v := ((rF s12 0 29) + 1)) dX14_readString_104 rfl ?_
              refine z_iload_n hC (pc := 105) 3 dX14_readString_105 rfl rfl ?_
              refine z_iload_n hC (pc := 106) 2 dX14_readString_106 rfl rfl ?_
              obtain ⟨r27, h⟩ := h
              obtain ⟨p28, h⟩ := h
              refine y_callVi hC (pc := 107) (As := [.ref (κ 1026), iv ((rF s12 0 29) + 1), iv y12_3, iv y12_2]) (kX14_keepString_t l G κ s12 1026 4001 ((rF s12 0 29) + 1) y12_3 y12_2 gg Ws12 (rAr_m rfl) r27 hy12_3 hy12_2 p28) dmX14_keepString zf14 rOb_0 dX14_readString_107 zw3214 rfl rfl (Nat.le_of_ble_eq_true rfl) (Nat.le_of_ble_eq_true rfl) (Nat.le_of_ble_eq_true rfl) (Nat.le_of_ble_eq_true rfl) (Nat.le_of_ble_eq_true rfl) (kk := fun v107 s107 hv107 Ws107 qs107 => ?_)
              have h := h v107 s107 hv107 Ws107 (TPRp.keep qs107.1 rfl rfl rfl) (qs107.1.R rfl) (qs107.1.F rfl) (qs107.1.F rfl) (qs107.1.F rfl) (qs107.1.F rfl) (qs107.1.F rfl) (qs107.1.F rfl) (qs107.1.F rfl) (qs107.1.FG g0 rfl) (qs107.1.FG g0 rfl) (qs107.1.FG g0 rfl) (fun i => qs107.1.AG (f := 10) g0 (by decide) rfl) (fun i => qs107.1.AG (f := 11) g0 (by decide) rfl) (fz_keep qs107.1 rfl) qs107.2
              refine z_istore hC (pc := 110) (lv' := [(4, iv v107), (0, .ref (κ 0)), (1, iv x1), (2, iv y12_2), (3, iv y12_3)]) dX14_readString_110 (by decide) rfl ?_
              refine z_aload_n hC (pc := 112) 1 dX14_readString_112 rfl rfl ?_
              refine z_iload_n hC (pc := 113) 4 dX14_readString_113 rfl rfl ?_
              refine z_iconst hC (pc := 114) (v := Int32.ofInt 1) dX14_readString_114 (by decide) ?_
              refine y_iadd hC (pc := 115) (v := (y12_3 + 1)) dX14_readString_115 rfl ?_
              obtain ⟨r29, h⟩ := h
              refine y_putI hC (pc := 116) zf14 rOb_0 29 (x := (y12_3 + 1)) dX14_readString_116 zw2496 (Or.inl rfl) rfl rfl (kk := ?_)
              have W30 := Ws107.sF (q := 0) (f := 29) (x := (y12_3 + 1)) r29
              refine z_iload hC (pc := 119) 0 dX14_readString_119 rfl ?_
              exact y_reti hR dX14_readString_121 rfl hv107 W30 (Nat.le_of_ble_eq_true rfl) (Nat.le_of_ble_eq_true rfl) ⟨(rKeep.tr (rKeep.tr (rKeep.tr rKeep.rf kJ rfl rfl rfl rfl rfl) qs107.1 rfl rfl rfl rfl rfl) (rKeep.sF0 (f := 29)) rfl rfl rfl rfl rfl), h⟩
            · have h := hF c
              refine z_aload_n hC (pc := 66) 0 dX14_readString_66 rfl rfl ?_
              refine z_iconst hC (pc := 67) (v := Int32.ofInt 1) dX14_readString_67 (by decide) ?_
              refine z_iload_n hC (pc := 68) 3 dX14_readString_68 rfl rfl ?_
              refine z_aload_n hC (pc := 69) 0 dX14_readString_69 rfl rfl ?_
              refine y_get hC (pc := 70) zf14 rOb_0 28 (v := iv (rF s12 0 28)) dX14_readString_70 zw2495 (rv_i (Or.inl rfl) rfl) (kk := ?_)
              obtain ⟨hT, hF⟩ := h
              refine y_icmp_ge hC (pc := 73) 85 hy12_3 (Ws12.f _ _) dX14_readString_73 (by decide) (fun c => ?_) (fun c => ?_)
              · have h := hT c
                refine z_aload_n hC (pc := 85) 0 dX14_readString_85 rfl rfl ?_
                refine y_get hC (pc := 86) zf14 rOb_0 30 (v := iv (rF s12 0 30)) dX14_readString_86 zw2497 (rv_i (Or.inl rfl) rfl) (kk := ?_)
                have h := h (Ws12.f _ _)
                obtain ⟨p31, h⟩ := h
                refine y_callVv hC (pc := 89) (As := [iv 1, iv (rF s12 0 30)]) (kX14_bad l G κ s12 1 (rF s12 0 30) Ws12 (r_lit rfl) (Ws12.f _ _) p31) dmX14_bad zf14 rOb_0 dX14_readString_89 zw3000 rfl rfl (Nat.le_of_ble_eq_true rfl) (Nat.le_of_ble_eq_true rfl) (Nat.le_of_ble_eq_true rfl) (Nat.le_of_ble_eq_true rfl) (Nat.le_of_ble_eq_true rfl) (kk := fun s89 Ws89 qs89 => ?_)
                have h := h s89 Ws89 (rNMp.keep qs89.1 rfl rfl rfl rfl rfl) (TPRp.keep qs89.1 rfl rfl rfl) (PNp.keep qs89.1 rfl rfl rfl rfl rfl) (qs89.1.R rfl) (qs89.1.F rfl) (qs89.1.F rfl) (qs89.1.F rfl) (qs89.1.F rfl) (qs89.1.F rfl) (qs89.1.F rfl) (qs89.1.FG g0 rfl) (qs89.1.FG g0 rfl) (qs89.1.FG g0 rfl) (qs89.1.FG g0 rfl) (qs89.1.FG g0 rfl) (fun i => qs89.1.AG (f := 10) g0 (by decide) rfl) (fun i => qs89.1.AG (f := 11) g0 (by decide) rfl) (RG.keep (c0 := 0) qs89.1 rfl rfl rfl rfl rfl rfl rfl rfl rfl rfl rfl rfl rfl rfl rfl rfl rfl rfl) qs89.2
                refine z_iconst hC (pc := 92) (v := Int32.ofInt 0) dX14_readString_92 (by decide) ?_
                exact y_reti hR dX14_readString_93 rfl (r_lit rfl) Ws89 (Nat.le_of_ble_eq_true rfl) (Nat.le_of_ble_eq_true rfl) ⟨(rKeep.tr (rKeep.tr rKeep.rf kJ rfl rfl rfl rfl rfl) qs89.1 rfl rfl rfl rfl rfl), h⟩
              · have h := hF c
                refine z_aload_n hC (pc := 76) 0 dX14_readString_76 rfl rfl ?_
                refine y_get hC (pc := 77) zf14 rOb_0 27 (v := .ref (κ 1027)) dX14_readString_77 zw2494 (rv_c rfl) (kk := ?_)
                refine z_iload_n hC (pc := 80) 3 dX14_readString_80 rfl rfl ?_
                obtain ⟨b32, h⟩ := h
                refine y_iald hC (pc := 81) (rAr_m rfl) dX14_readString_81 b32 (v := (rA s12 1027 y12_3)) rfl (kk := ?_)
                have h := h (Ws12.a _ _)
                refine z_goto hC (pc := 82) 89 dX14_readString_82 (by decide) ?_
                obtain ⟨p33, h⟩ := h
                refine y_callVv hC (pc := 89) (As := [iv 1, iv (rA s12 1027 y12_3)]) (kX14_bad l G κ s12 1 (rA s12 1027 y12_3) Ws12 (r_lit rfl) (Ws12.a _ _) p33) dmX14_bad zf14 rOb_0 dX14_readString_89 zw3000 rfl rfl (Nat.le_of_ble_eq_true rfl) (Nat.le_of_ble_eq_true rfl) (Nat.le_of_ble_eq_true rfl) (Nat.le_of_ble_eq_true rfl) (Nat.le_of_ble_eq_true rfl) (kk := fun s89 Ws89 qs89 => ?_)
                have h := h s89 Ws89 (rNMp.keep qs89.1 rfl rfl rfl rfl rfl) (TPRp.keep qs89.1 rfl rfl rfl) (PNp.keep qs89.1 rfl rfl rfl rfl rfl) (qs89.1.R rfl) (qs89.1.F rfl) (qs89.1.F rfl) (qs89.1.F rfl) (qs89.1.F rfl) (qs89.1.F rfl) (qs89.1.F rfl) (qs89.1.FG g0 rfl) (qs89.1.FG g0 rfl) (qs89.1.FG g0 rfl) (qs89.1.FG g0 rfl) (qs89.1.FG g0 rfl) (fun i => qs89.1.AG (f := 10) g0 (by decide) rfl) (fun i => qs89.1.AG (f := 11) g0 (by decide) rfl) (RG.keep (c0 := 0) qs89.1 rfl rfl rfl rfl rfl rfl rfl rfl rfl rfl rfl rfl rfl rfl rfl rfl rfl rfl) qs89.2
                refine z_iconst hC (pc := 92) (v := Int32.ofInt 0) dX14_readString_92 (by decide) ?_
                exact y_reti hR dX14_readString_93 rfl (r_lit rfl) Ws89 (Nat.le_of_ble_eq_true rfl) (Nat.le_of_ble_eq_true rfl) ⟨(rKeep.tr (rKeep.tr rKeep.rf kJ rfl rfl rfl rfl rfl) qs89.1 rfl rfl rfl rfl rfl), h⟩
        · have h := hF c
          refine z_aload_n hC (pc := 30) 0 dX14_readString_30 rfl rfl ?_
          refine y_get hC (pc := 31) zf14 rOb_0 26 (v := .ref (κ 1026)) dX14_readString_31 zw2493 (rv_c rfl) (kk := ?_)
          refine z_iload_n hC (pc := 34) 3 dX14_readString_34 rfl rfl ?_
          obtain ⟨b34, h⟩ := h
          refine y_bald hC (pc := 35) (rAr_m rfl) dX14_readString_35 b34 (v := (rA s12 1026 y12_3)) rfl (kk := ?_)
          refine z_bipush hC (pc := 36) (v := Int32.ofInt 10) dX14_readString_36 (by decide) ?_
          obtain ⟨hT, hF⟩ := h
          refine y_icmp_eq hC (pc := 38) 47 (Ws12.a _ _) (r_lit rfl) dX14_readString_38 (by decide) (fun c => ?_) (fun c => ?_)
          · have h := hT c
            refine z_iload_n hC (pc := 47) 3 dX14_readString_47 rfl rfl ?_
            refine z_aload_n hC (pc := 48) 0 dX14_readString_48 rfl rfl ?_
            refine y_get hC (pc := 49) zf14 rOb_0 28 (v := iv (rF s12 0 28)) dX14_readString_49 zw2495 (rv_i (Or.inl rfl) rfl) (kk := ?_)
            obtain ⟨hT, hF⟩ := h
            refine y_icmp_ge hC (pc := 52) 66 hy12_3 (Ws12.f _ _) dX14_readString_52 (by decide) (fun c => ?_) (fun c => ?_)
            · have h := hT c
              refine z_aload_n hC (pc := 66) 0 dX14_readString_66 rfl rfl ?_
              refine z_iconst hC (pc := 67) (v := Int32.ofInt 1) dX14_readString_67 (by decide) ?_
              refine z_iload_n hC (pc := 68) 3 dX14_readString_68 rfl rfl ?_
              refine z_aload_n hC (pc := 69) 0 dX14_readString_69 rfl rfl ?_
              refine y_get hC (pc := 70) zf14 rOb_0 28 (v := iv (rF s12 0 28)) dX14_readString_70 zw2495 (rv_i (Or.inl rfl) rfl) (kk := ?_)
              obtain ⟨hT, hF⟩ := h
              refine y_icmp_ge hC (pc := 73) 85 hy12_3 (Ws12.f _ _) dX14_readString_73 (by decide) (fun c => ?_) (fun c => ?_)
              · have h := hT c
                refine z_aload_n hC (pc := 85) 0 dX14_readString_85 rfl rfl ?_
                refine y_get hC (pc := 86) zf14 rOb_0 30 (v := iv (rF s12 0 30)) dX14_readString_86 zw2497 (rv_i (Or.inl rfl) rfl) (kk := ?_)
                have h := h (Ws12.f _ _)
                obtain ⟨p35, h⟩ := h
                refine y_callVv hC (pc := 89) (As := [iv 1, iv (rF s12 0 30)]) (kX14_bad l G κ s12 1 (rF s12 0 30) Ws12 (r_lit rfl) (Ws12.f _ _) p35) dmX14_bad zf14 rOb_0 dX14_readString_89 zw3000 rfl rfl (Nat.le_of_ble_eq_true rfl) (Nat.le_of_ble_eq_true rfl) (Nat.le_of_ble_eq_true rfl) (Nat.le_of_ble_eq_true rfl) (Nat.le_of_ble_eq_true rfl) (kk := fun s89 Ws89 qs89 => ?_)
                have h := h s89 Ws89 (rNMp.keep qs89.1 rfl rfl rfl rfl rfl) (TPRp.keep qs89.1 rfl rfl rfl) (PNp.keep qs89.1 rfl rfl rfl rfl rfl) (qs89.1.R rfl) (qs89.1.F rfl) (qs89.1.F rfl) (qs89.1.F rfl) (qs89.1.F rfl) (qs89.1.F rfl) (qs89.1.F rfl) (qs89.1.FG g0 rfl) (qs89.1.FG g0 rfl) (qs89.1.FG g0 rfl) (qs89.1.FG g0 rfl) (qs89.1.FG g0 rfl) (fun i => qs89.1.AG (f := 10) g0 (by decide) rfl) (fun i => qs89.1.AG (f := 11) g0 (by decide) rfl) (RG.keep (c0 := 0) qs89.1 rfl rfl rfl rfl rfl rfl rfl rfl rfl rfl rfl rfl rfl rfl rfl rfl rfl rfl) qs89.2
                refine z_iconst hC (pc := 92) (v := Int32.ofInt 0) dX14_readString_92 (by decide) ?_
                exact y_reti hR dX14_readString_93 rfl (r_lit rfl) Ws89 (Nat.le_of_ble_eq_true rfl) (Nat.le_of_ble_eq_true rfl) ⟨(rKeep.tr (rKeep.tr rKeep.rf kJ rfl rfl rfl rfl rfl) qs89.1 rfl rfl rfl rfl rfl), h⟩
              · have h := hF c
                refine z_aload_n hC (pc := 76) 0 dX14_readString_76 rfl rfl ?_
                refine y_get hC (pc := 77) zf14 rOb_0 27 (v := .ref (κ 1027)) dX14_readString_77 zw2494 (rv_c rfl) (kk := ?_)
                refine z_iload_n hC (pc := 80) 3 dX14_readString_80 rfl rfl ?_
                obtain ⟨b36, h⟩ := h
                refine y_iald hC (pc := 81) (rAr_m rfl) dX14_readString_81 b36 (v := (rA s12 1027 y12_3)) rfl (kk := ?_)
                have h := h (Ws12.a _ _)
                refine z_goto hC (pc := 82) 89 dX14_readString_82 (by decide) ?_
                obtain ⟨p37, h⟩ := h
                refine y_callVv hC (pc := 89) (As := [iv 1, iv (rA s12 1027 y12_3)]) (kX14_bad l G κ s12 1 (rA s12 1027 y12_3) Ws12 (r_lit rfl) (Ws12.a _ _) p37) dmX14_bad zf14 rOb_0 dX14_readString_89 zw3000 rfl rfl (Nat.le_of_ble_eq_true rfl) (Nat.le_of_ble_eq_true rfl) (Nat.le_of_ble_eq_true rfl) (Nat.le_of_ble_eq_true rfl) (Nat.le_of_ble_eq_true rfl) (kk := fun s89 Ws89 qs89 => ?_)
                have h := h s89 Ws89 (rNMp.keep qs89.1 rfl rfl rfl rfl rfl) (TPRp.keep qs89.1 rfl rfl rfl) (PNp.keep qs89.1 rfl rfl rfl rfl rfl) (qs89.1.R rfl) (qs89.1.F rfl) (qs89.1.F rfl) (qs89.1.F rfl) (qs89.1.F rfl) (qs89.1.F rfl) (qs89.1.F rfl) (qs89.1.FG g0 rfl) (qs89.1.FG g0 rfl) (qs89.1.FG g0 rfl) (qs89.1.FG g0 rfl) (qs89.1.FG g0 rfl) (fun i => qs89.1.AG (f := 10) g0 (by decide) rfl) (fun i => qs89.1.AG (f := 11) g0 (by decide) rfl) (RG.keep (c0 := 0) qs89.1 rfl rfl rfl rfl rfl rfl rfl rfl rfl rfl rfl rfl rfl rfl rfl rfl rfl rfl) qs89.2
                refine z_iconst hC (pc := 92) (v := Int32.ofInt 0) dX14_readString_92 (by decide) ?_
                exact y_reti hR dX14_readString_93 rfl (r_lit rfl) Ws89 (Nat.le_of_ble_eq_true rfl) (Nat.le_of_ble_eq_true rfl) ⟨(rKeep.tr (rKeep.tr rKeep.rf kJ rfl rfl rfl rfl rfl) qs89.1 rfl rfl rfl rfl rfl), h⟩
            · have h := hF c
              refine z_aload_n hC (pc := 55) 0 dX14_readString_55 rfl rfl ?_
              refine y_get hC (pc := 56) zf14 rOb_0 26 (v := .ref (κ 1026)) dX14_readString_56 zw2493 (rv_c rfl) (kk := ?_)
              refine z_iload_n hC (pc := 59) 3 dX14_readString_59 rfl rfl ?_
              obtain ⟨b38, h⟩ := h
              refine y_bald hC (pc := 60) (rAr_m rfl) dX14_readString_60 b38 (v := (rA s12 1026 y12_3)) rfl (kk := ?_)
              refine z_bipush hC (pc := 61) (v := Int32.ofInt 10) dX14_readString_61 (by decide) ?_
              obtain ⟨hT, hF⟩ := h
              refine y_icmp_ne hC (pc := 63) 94 (Ws12.a _ _) (r_lit rfl) dX14_readString_63 (by decide) (fun c => ?_) (fun c => ?_)
              · have h := hT c
                refine z_aload_n hC (pc := 94) 0 dX14_readString_94 rfl rfl ?_
                refine z_aload_n hC (pc := 95) 0 dX14_readString_95 rfl rfl ?_
                refine y_get hC (pc := 96) zf14 rOb_0 26 (v := .ref (κ 1026)) dX14_readString_96 zw2493 (rv_c rfl) (kk := ?_)
                refine z_aload_n hC (pc := 99) 0 dX14_readString_99 rfl rfl ?_
                refine y_get hC (pc := 100) zf14 rOb_0 29 (v := iv (rF s12 0 29)) dX14_readString_100 zw2496 (rv_i (Or.inl rfl) rfl) (kk := ?_)
                have h := h (Ws12.f _ _)
                refine z_iconst hC (pc := 103) (v := Int32.ofInt 1) dX14_readString_103 (by decide) ?_
                refine y_iadd hC (pc := 104) (v := ((rF s12 0 29) + 1)) dX14_readString_104 rfl ?_
                refine z_iload_n hC (pc := 105) 3 dX14_readString_105 rfl rfl ?_
                refine z_iload_n hC (pc := 106) 2 dX14_readString_106 rfl rfl ?_
                obtain ⟨r39, h⟩ := h
                obtain ⟨p40, h⟩ := h
                refine y_callVi hC (pc := 107) (As := [.ref (κ 1026), iv ((rF s12 0 29) + 1), iv y12_3, iv y12_2]) (kX14_keepString_t l G κ s12 1026 4001 ((rF s12 0 29) + 1) y12_3 y12_2 gg Ws12 (rAr_m rfl) r39 hy12_3 hy12_2 p40) dmX14_keepString zf14 rOb_0 dX14_readString_107 zw3214 rfl rfl (Nat.le_of_ble_eq_true rfl) (Nat.le_of_ble_eq_true rfl) (Nat.le_of_ble_eq_true rfl) (Nat.le_of_ble_eq_true rfl) (Nat.le_of_ble_eq_true rfl) (kk := fun v107 s107 hv107 Ws107 qs107 => ?_)
                have h := h v107 s107 hv107 Ws107 (TPRp.keep qs107.1 rfl rfl rfl) (qs107.1.R rfl) (qs107.1.F rfl) (qs107.1.F rfl) (qs107.1.F rfl) (qs107.1.F rfl) (qs107.1.F rfl) (qs107.1.F rfl) (qs107.1.F rfl) (qs107.1.FG g0 rfl) (qs107.1.FG g0 rfl) (qs107.1.FG g0 rfl) (fun i => qs107.1.AG (f := 10) g0 (by decide) rfl) (fun i => qs107.1.AG (f := 11) g0 (by decide) rfl) (fz_keep qs107.1 rfl) qs107.2
                refine z_istore hC (pc := 110) (lv' := [(4, iv v107), (0, .ref (κ 0)), (1, iv x1), (2, iv y12_2), (3, iv y12_3)]) dX14_readString_110 (by decide) rfl ?_
                refine z_aload_n hC (pc := 112) 1 dX14_readString_112 rfl rfl ?_
                refine z_iload_n hC (pc := 113) 4 dX14_readString_113 rfl rfl ?_
                refine z_iconst hC (pc := 114) (v := Int32.ofInt 1) dX14_readString_114 (by decide) ?_
                refine y_iadd hC (pc := 115) (v := (y12_3 + 1)) dX14_readString_115 rfl ?_
                obtain ⟨r41, h⟩ := h
                refine y_putI hC (pc := 116) zf14 rOb_0 29 (x := (y12_3 + 1)) dX14_readString_116 zw2496 (Or.inl rfl) rfl rfl (kk := ?_)
                have W42 := Ws107.sF (q := 0) (f := 29) (x := (y12_3 + 1)) r41
                refine z_iload hC (pc := 119) 0 dX14_readString_119 rfl ?_
                exact y_reti hR dX14_readString_121 rfl hv107 W42 (Nat.le_of_ble_eq_true rfl) (Nat.le_of_ble_eq_true rfl) ⟨(rKeep.tr (rKeep.tr (rKeep.tr rKeep.rf kJ rfl rfl rfl rfl rfl) qs107.1 rfl rfl rfl rfl rfl) (rKeep.sF0 (f := 29)) rfl rfl rfl rfl rfl), h⟩
              · have h := hF c
                refine z_aload_n hC (pc := 66) 0 dX14_readString_66 rfl rfl ?_
                refine z_iconst hC (pc := 67) (v := Int32.ofInt 1) dX14_readString_67 (by decide) ?_
                refine z_iload_n hC (pc := 68) 3 dX14_readString_68 rfl rfl ?_
                refine z_aload_n hC (pc := 69) 0 dX14_readString_69 rfl rfl ?_
                refine y_get hC (pc := 70) zf14 rOb_0 28 (v := iv (rF s12 0 28)) dX14_readString_70 zw2495 (rv_i (Or.inl rfl) rfl) (kk := ?_)
                obtain ⟨hT, hF⟩ := h
                refine y_icmp_ge hC (pc := 73) 85 hy12_3 (Ws12.f _ _) dX14_readString_73 (by decide) (fun c => ?_) (fun c => ?_)
                · have h := hT c
                  refine z_aload_n hC (pc := 85) 0 dX14_readString_85 rfl rfl ?_
                  refine y_get hC (pc := 86) zf14 rOb_0 30 (v := iv (rF s12 0 30)) dX14_readString_86 zw2497 (rv_i (Or.inl rfl) rfl) (kk := ?_)
                  have h := h (Ws12.f _ _)
                  obtain ⟨p43, h⟩ := h
                  refine y_callVv hC (pc := 89) (As := [iv 1, iv (rF s12 0 30)]) (kX14_bad l G κ s12 1 (rF s12 0 30) Ws12 (r_lit rfl) (Ws12.f _ _) p43) dmX14_bad zf14 rOb_0 dX14_readString_89 zw3000 rfl rfl (Nat.le_of_ble_eq_true rfl) (Nat.le_of_ble_eq_true rfl) (Nat.le_of_ble_eq_true rfl) (Nat.le_of_ble_eq_true rfl) (Nat.le_of_ble_eq_true rfl) (kk := fun s89 Ws89 qs89 => ?_)
                  have h := h s89 Ws89 (rNMp.keep qs89.1 rfl rfl rfl rfl rfl) (TPRp.keep qs89.1 rfl rfl rfl) (PNp.keep qs89.1 rfl rfl rfl rfl rfl) (qs89.1.R rfl) (qs89.1.F rfl) (qs89.1.F rfl) (qs89.1.F rfl) (qs89.1.F rfl) (qs89.1.F rfl) (qs89.1.F rfl) (qs89.1.FG g0 rfl) (qs89.1.FG g0 rfl) (qs89.1.FG g0 rfl) (qs89.1.FG g0 rfl) (qs89.1.FG g0 rfl) (fun i => qs89.1.AG (f := 10) g0 (by decide) rfl) (fun i => qs89.1.AG (f := 11) g0 (by decide) rfl) (RG.keep (c0 := 0) qs89.1 rfl rfl rfl rfl rfl rfl rfl rfl rfl rfl rfl rfl rfl rfl rfl rfl rfl rfl) qs89.2
                  refine z_iconst hC (pc := 92) (v := Int32.ofInt 0) dX14_readString_92 (by decide) ?_
                  exact y_reti hR dX14_readString_93 rfl (r_lit rfl) Ws89 (Nat.le_of_ble_eq_true rfl) (Nat.le_of_ble_eq_true rfl) ⟨(rKeep.tr (rKeep.tr rKeep.rf kJ rfl rfl rfl rfl rfl) qs89.1 rfl rfl rfl rfl rfl), h⟩
                · have h := hF c
                  refine z_aload_n hC (pc := 76) 0 dX14_readString_76 rfl rfl ?_
                  refine y_get hC (pc := 77) zf14 rOb_0 27 (v := .ref (κ 1027)) dX14_readString_77 zw2494 (rv_c rfl) (kk := ?_)
                  refine z_iload_n hC (pc := 80) 3 dX14_readString_80 rfl rfl ?_
                  obtain ⟨b44, h⟩ := h
                  refine y_iald hC (pc := 81) (rAr_m rfl) dX14_readString_81 b44 (v := (rA s12 1027 y12_3)) rfl (kk := ?_)
                  have h := h (Ws12.a _ _)
                  refine z_goto hC (pc := 82) 89 dX14_readString_82 (by decide) ?_
                  obtain ⟨p45, h⟩ := h
                  refine y_callVv hC (pc := 89) (As := [iv 1, iv (rA s12 1027 y12_3)]) (kX14_bad l G κ s12 1 (rA s12 1027 y12_3) Ws12 (r_lit rfl) (Ws12.a _ _) p45) dmX14_bad zf14 rOb_0 dX14_readString_89 zw3000 rfl rfl (Nat.le_of_ble_eq_true rfl) (Nat.le_of_ble_eq_true rfl) (Nat.le_of_ble_eq_true rfl) (Nat.le_of_ble_eq_true rfl) (Nat.le_of_ble_eq_true rfl) (kk := fun s89 Ws89 qs89 => ?_)
                  have h := h s89 Ws89 (rNMp.keep qs89.1 rfl rfl rfl rfl rfl) (TPRp.keep qs89.1 rfl rfl rfl) (PNp.keep qs89.1 rfl rfl rfl rfl rfl) (qs89.1.R rfl) (qs89.1.F rfl) (qs89.1.F rfl) (qs89.1.F rfl) (qs89.1.F rfl) (qs89.1.F rfl) (qs89.1.F rfl) (qs89.1.FG g0 rfl) (qs89.1.FG g0 rfl) (qs89.1.FG g0 rfl) (qs89.1.FG g0 rfl) (qs89.1.FG g0 rfl) (fun i => qs89.1.AG (f := 10) g0 (by decide) rfl) (fun i => qs89.1.AG (f := 11) g0 (by decide) rfl) (RG.keep (c0 := 0) qs89.1 rfl rfl rfl rfl rfl rfl rfl rfl rfl rfl rfl rfl rfl rfl rfl rfl rfl rfl) qs89.2
                  refine z_iconst hC (pc := 92) (v := Int32.ofInt 0) dX14_readString_92 (by decide) ?_
                  exact y_reti hR dX14_readString_93 rfl (r_lit rfl) Ws89 (Nat.le_of_ble_eq_true rfl) (Nat.le_of_ble_eq_true rfl) ⟨(rKeep.tr (rKeep.tr rKeep.rf kJ rfl rfl rfl rfl rfl) qs89.1 rfl rfl rfl rfl rfl), h⟩
          · have h := hF c
            refine y_iinc hC (pc := 41) (v := (y12_3 + 1)) (lv' := [(3, iv (y12_3 + 1)), (0, .ref (κ 0)), (1, iv x1), (2, iv y12_2)]) 3 dX14_readString_41 rfl rfl (by decide) rfl ?_
            refine z_goto hC (pc := 44) 12 dX14_readString_44 (by decide) ?_
            refine z_lvs [1, 2, 3, 0] rfl ?_
            obtain ⟨r46, h⟩ := h
            obtain ⟨hI, hm⟩ := h
            exact ih12 s12 y12_2 (y12_3 + 1) Ws12 hy12_2 r46 (rKeep.tr rKeep.rf kJ rfl rfl rfl rfl rfl) hI (by omega)
  refine z_lvs [2, 3, 1, 0] rfl ?_
  obtain ⟨r47, h⟩ := h
  exact j12 _ σ v1 ((rF σ 0 29) + 1) hwf hv1 r47 rKeep.rf h (Nat.le_refl _)
theorem kX14_readString_g (l : Launch) (G : zG) (κ : Nat → Nat) (σ : rS) (x1 : Int) (gg : Nat) (g : Nat → Int → Int) (hwf : rWF σ) (hx1 : rng x1) (hp : pre_X14_readString_g σ x1 gg g) : rMi l G κ yX14_readString cX14_readString 5 .int 3 50 [.ref (κ 0), iv x1] σ (fun x s => rKeep 0x23001c00 0x280 0 0x17f 0 σ s ∧ post_X14_readString_g σ x1 gg g x s) := wX14_readString_g l G κ σ x1 gg g hwf hx1 (post_X14_readString_g σ x1 gg g) (vX14_readString_g σ x1 gg g hwf hx1 hp) (vX14_readString_g_12 σ x1 gg g hwf hx1 hp) (vX14_readString_g_12m σ x1 gg g hwf hx1 hp)
def pre_X14_isTwice_t (σ : rS) (x1 : Int) : Prop := 0 ≤ (rF σ 0 29) ∧ (rF σ 0 29) ≤ 100000 ∧ (rF σ 0 28) ≤ 4001
def post_X14_isTwice_t (σ : rS) (x1 : Int) (r : Int) : Prop := (r = 0 ∨ r = 1) ∧ (r = 1 → (rF σ 0 29) + 1 < (rF σ 0 28)) ∧ Im (r = 1) (TWp (rA σ 1026) (rF σ 0 28) (rF σ 0 29) x1) ∧ Im (TWp (rA σ 1026) (rF σ 0 28) (rF σ 0 29) x1) (r = 1)
def VC_X14_isTwice_t (σ : rS) (x1 : Int) (Q : Int → Prop) : Prop := pre_X14_here σ ∧ (∀ (v1 : Int), rng v1 → post_X14_here σ v1 → ((¬ v1 = x1 → Q 0) ∧ (v1 = x1 → (rng (rF σ 0 29) → (rng (rF σ 0 28) → rng ((rF σ 0 29) + 1) ∧ (((rF σ 0 28) ≤ ((rF σ 0 29) + 1) → Q 0) ∧ (¬ (rF σ 0 28) ≤ ((rF σ 0 29) + 1) → (0 ≤ ((rF σ 0 29) + 1) ∧ ((rF σ 0 29) + 1) < 4001) ∧ (rng (rA σ 1026 ((rF σ 0 29) + 1)) → ((¬ (rA σ 1026 ((rF σ 0 29) + 1)) = x1 → Q 0) ∧ ((rA σ 1026 ((rF σ 0 29) + 1)) = x1 → Q 1))))))))))
set_option maxHeartbeats 20000000 in
theorem vX14_isTwice_t (σ : rS) (x1 : Int) (hwf : rWF σ) (hx1 : rng x1) (hp : pre_X14_isTwice_t σ x1) : VC_X14_isTwice_t σ x1 (post_X14_isTwice_t σ x1) := by
  unfold pre_X14_isTwice_t at hp
  obtain ⟨hp_1, hp_2, hp_3⟩ := hp
  unfold rng at hx1
  unfold VC_X14_isTwice_t
  refine ⟨(by (try simp only [pre_X14_here]); (all_goals (repeat' (first | with_reducible intro _ | with_reducible apply And.intro))); all_goals (first | assumption | trivial | omega | (have zz_ := fz_z (by assumption); omega) | (split <;> omega) | grind (splits := 20) [TWp, Im])), ?_⟩
  intro v1 hv1 q1
  unfold rng at hv1
  unfold post_X14_here at q1
  obtain ⟨q1_1, q1_2⟩ := q1
  refine ⟨fun c5 => ?_, fun c5 => ?_⟩
  · exact (by (try simp only [post_X14_isTwice_t]); (all_goals (repeat' (first | with_reducible intro _ | with_reducible apply And.intro))); all_goals (first | assumption | trivial | omega | (have zz_ := fz_z (by assumption); omega) | (split <;> omega) | grind (splits := 20) [TWp, Im]))
  · intro hr_; unfold rng at hr_
    intro hr_; unfold rng at hr_
    refine ⟨(by (try simp only [rng]); (all_goals (repeat' (first | with_reducible intro _ | with_reducible apply And.intro))); all_goals (first | assumption | trivial | omega | (have zz_ := fz_z (by assumption); omega) | (split <;> omega) | grind (splits := 20) [TWp, Im])), ?_⟩
    refine ⟨fun c18 => ?_, fun c18 => ?_⟩
    · exact (by (try simp only [post_X14_isTwice_t]); (all_goals (repeat' (first | with_reducible intro _ | with_reducible apply And.intro))); all_goals (first | assumption | trivial | omega | (have zz_ := fz_z (by assumption); omega) | (split <;> omega) | grind (splits := 20) [TWp, Im]))
    · refine ⟨(by (all_goals (repeat' (first | with_reducible intro _ | with_reducible apply And.intro))); all_goals (first | assumption | trivial | omega | (have zz_ := fz_z (by assumption); omega) | (split <;> omega) | grind (splits := 20) [TWp, Im])), ?_⟩
      intro hr_; unfold rng at hr_
      refine ⟨fun c33 => ?_, fun c33 => ?_⟩
      · exact (by (try simp only [post_X14_isTwice_t]); (all_goals (repeat' (first | with_reducible intro _ | with_reducible apply And.intro))); all_goals (first | assumption | trivial | omega | (have zz_ := fz_z (by assumption); omega) | (split <;> omega) | grind (splits := 20) [TWp, Im]))
      · exact (by (try simp only [post_X14_isTwice_t]); (all_goals (repeat' (first | with_reducible intro _ | with_reducible apply And.intro))); all_goals (first | assumption | trivial | omega | (have zz_ := fz_z (by assumption); omega) | (split <;> omega) | grind (splits := 20) [TWp, Im]))
theorem wX14_isTwice_t (l : Launch) (G : zG) (κ : Nat → Nat) (σ : rS) (x1 : Int) (hwf : rWF σ) (hx1 : rng x1) (Q : Int → Prop) (h : VC_X14_isTwice_t σ x1 Q) : rMi l G κ yX14_isTwice cX14_isTwice 2 .boolean 2 20 [.ref (κ 0), iv x1] σ (fun x s => s = σ ∧ Q x) := by
  refine zMi.intro (by decide +kernel) (Nat.le_of_ble_eq_true rfl) (fun X hC hR => ?_)
  refine z_aload_n hC (pc := 0) 0 dX14_isTwice_0 rfl rfl ?_
  obtain ⟨p10, h⟩ := h
  refine y_callVi hC (pc := 1) (As := []) (kX14_here l G κ σ  hwf  p10) dmX14_here zf14 rOb_0 dX14_isTwice_1 zw3099 rfl rfl (Nat.le_of_ble_eq_true rfl) (Nat.le_of_ble_eq_true rfl) (Nat.le_of_ble_eq_true rfl) (Nat.le_of_ble_eq_true rfl) (Nat.le_of_ble_eq_true rfl) (kk := fun v1 s1 hv1 Ws1 qs1 => ?_)
  obtain ⟨es1, qs1⟩ := qs1
  have es1 := es1.symm
  subst es1
  have h := h v1 hv1 qs1
  refine z_iload_n hC (pc := 4) 1 dX14_isTwice_4 rfl rfl ?_
  obtain ⟨hT, hF⟩ := h
  refine y_icmp_ne hC (pc := 5) 40 hv1 hx1 dX14_isTwice_5 (by decide) (fun c => ?_) (fun c => ?_)
  · have h := hT c
    refine z_iconst hC (pc := 40) (v := Int32.ofInt 0) dX14_isTwice_40 (by decide) ?_
    exact y_reti hR dX14_isTwice_41 rfl (r_lit rfl) hwf (Nat.le_of_ble_eq_true rfl) (Nat.le_of_ble_eq_true rfl) ⟨rfl, h⟩
  · have h := hF c
    refine z_aload_n hC (pc := 8) 0 dX14_isTwice_8 rfl rfl ?_
    refine y_get hC (pc := 9) zf14 rOb_0 29 (v := iv (rF σ 0 29)) dX14_isTwice_9 zw2496 (rv_i (Or.inl rfl) rfl) (kk := ?_)
    have h := h (hwf.f _ _)
    refine z_iconst hC (pc := 12) (v := Int32.ofInt 1) dX14_isTwice_12 (by decide) ?_
    refine y_iadd hC (pc := 13) (v := ((rF σ 0 29) + 1)) dX14_isTwice_13 rfl ?_
    refine z_aload_n hC (pc := 14) 0 dX14_isTwice_14 rfl rfl ?_
    refine y_get hC (pc := 15) zf14 rOb_0 28 (v := iv (rF σ 0 28)) dX14_isTwice_15 zw2495 (rv_i (Or.inl rfl) rfl) (kk := ?_)
    have h := h (hwf.f _ _)
    obtain ⟨r11, h⟩ := h
    obtain ⟨hT, hF⟩ := h
    refine y_icmp_ge hC (pc := 18) 40 r11 (hwf.f _ _) dX14_isTwice_18 (by decide) (fun c => ?_) (fun c => ?_)
    · have h := hT c
      refine z_iconst hC (pc := 40) (v := Int32.ofInt 0) dX14_isTwice_40 (by decide) ?_
      exact y_reti hR dX14_isTwice_41 rfl (r_lit rfl) hwf (Nat.le_of_ble_eq_true rfl) (Nat.le_of_ble_eq_true rfl) ⟨rfl, h⟩
    · have h := hF c
      refine z_aload_n hC (pc := 21) 0 dX14_isTwice_21 rfl rfl ?_
      refine y_get hC (pc := 22) zf14 rOb_0 26 (v := .ref (κ 1026)) dX14_isTwice_22 zw2493 (rv_c rfl) (kk := ?_)
      refine z_aload_n hC (pc := 25) 0 dX14_isTwice_25 rfl rfl ?_
      refine y_get hC (pc := 26) zf14 rOb_0 29 (v := iv (rF σ 0 29)) dX14_isTwice_26 zw2496 (rv_i (Or.inl rfl) rfl) (kk := ?_)
      refine z_iconst hC (pc := 29) (v := Int32.ofInt 1) dX14_isTwice_29 (by decide) ?_
      refine y_iadd hC (pc := 30) (v := ((rF σ 0 29) + 1)) dX14_isTwice_30 rfl ?_
      obtain ⟨b12, h⟩ := h
      refine y_bald hC (pc := 31) (rAr_m rfl) dX14_isTwice_31 b12 (v := (rA σ 1026 ((rF σ 0 29) + 1))) rfl (kk := ?_)
      have h := h (hwf.a _ _)
      refine z_iload_n hC (pc := 32) 1 dX14_isTwice_32 rfl rfl ?_
      obtain ⟨hT, hF⟩ := h
      refine y_icmp_ne hC (pc := 33) 40 (hwf.a _ _) hx1 dX14_isTwice_33 (by decide) (fun c => ?_) (fun c => ?_)
      · have h := hT c
        refine z_iconst hC (pc := 40) (v := Int32.ofInt 0) dX14_isTwice_40 (by decide) ?_
        exact y_reti hR dX14_isTwice_41 rfl (r_lit rfl) hwf (Nat.le_of_ble_eq_true rfl) (Nat.le_of_ble_eq_true rfl) ⟨rfl, h⟩
      · have h := hF c
        refine z_iconst hC (pc := 36) (v := Int32.ofInt 1) dX14_isTwice_36 (by decide) ?_
        refine z_goto hC (pc := 37) 41 dX14_isTwice_37 (by decide) ?_
        exact y_reti hR dX14_isTwice_41 rfl (r_lit rfl) hwf (Nat.le_of_ble_eq_true rfl) (Nat.le_of_ble_eq_true rfl) ⟨rfl, h⟩
theorem kX14_isTwice_t (l : Launch) (G : zG) (κ : Nat → Nat) (σ : rS) (x1 : Int) (hwf : rWF σ) (hx1 : rng x1) (hp : pre_X14_isTwice_t σ x1) : rMi l G κ yX14_isTwice cX14_isTwice 2 .boolean 2 20 [.ref (κ 0), iv x1] σ (fun x s => s = σ ∧ post_X14_isTwice_t σ x1 x) := wX14_isTwice_t l G κ σ x1 hwf hx1 (post_X14_isTwice_t σ x1) (vX14_isTwice_t σ x1 hwf hx1 hp) 
def pre_X14_dots_t (σ : rS) (x1 : Int) (gg : Nat) : Prop := rR σ 7 = gg ∧ rgk gg ∧ TPRp σ ∧ 0 ≤ (rF σ 0 29) ∧ (rF σ 0 29) ≤ (rF σ 0 28) + 3 * fz σ ∧ 0 ≤ (rF σ 0 28) ∧ (rF σ 0 28) ≤ 4001 ∧ (rF σ 0 29) + 2 < (rF σ 0 28) ∧ 1 ≤ x1 ∧ x1 < (rF σ gg 7) ∧ (rF σ gg 7) < 50000
def post_X14_dots_t (σ : rS) (x1 : Int) (gg : Nat) (σ' : rS) : Prop := (rF σ 0 29) ≤ (rF σ' 0 29) ∧ (rF σ' 0 29) ≤ (rF σ 0 28) + 3 * fz σ' ∧ fz σ ≤ fz σ' ∧ Im (fz σ' = 0) (RG σ σ' gg x1) ∧ (rF σ 0 29) + 4 ≤ (rF σ' 0 29) + fz σ' ∧ Im (fz σ' = 0) (tr σ' gg 2 x1 = tr σ gg 2 x1)
def VC_X14_dots_t (σ : rS) (x1 : Int) (gg : Nat) (Q : rS → Prop) : Prop := rgk (rR σ 7) ∧ (rng (rF σ 0 29) → rng ((rF σ 0 29) + 3) ∧ (0 ≤ x1 ∧ x1 < 50000) ∧ pre_X14_need (sT (sF σ 0 29 ((rF σ 0 29) + 3)) (rR σ 7) 3 x1 1) 41 ∧ (∀ (s23 : rS), rWF s23 → (TPRp (sT (sF σ 0 29 ((rF σ 0 29) + 3)) (rR σ 7) 3 x1 1) → TPRp s23) → rR s23 7 = rR (sT (sF σ 0 29 ((rF σ 0 29) + 3)) (rR σ 7) 3 x1 1) 7 → rF s23 0 28 = rF (sT (sF σ 0 29 ((rF σ 0 29) + 3)) (rR σ 7) 3 x1 1) 0 28 → rF s23 0 31 = rF (sT (sF σ 0 29 ((rF σ 0 29) + 3)) (rR σ 7) 3 x1 1) 0 31 → rF s23 0 38 = rF (sT (sF σ 0 29 ((rF σ 0 29) + 3)) (rR σ 7) 3 x1 1) 0 38 → rF s23 0 39 = rF (sT (sF σ 0 29 ((rF σ 0 29) + 3)) (rR σ 7) 3 x1 1) 0 39 → rF s23 (rR σ 7) 7 = rF (sT (sF σ 0 29 ((rF σ 0 29) + 3)) (rR σ 7) 3 x1 1) (rR σ 7) 7 → rF s23 (rR σ 7) 9 = rF (sT (sF σ 0 29 ((rF σ 0 29) + 3)) (rR σ 7) 3 x1 1) (rR σ 7) 9 → rF s23 (rR σ 7) 12 = rF (sT (sF σ 0 29 ((rF σ 0 29) + 3)) (rR σ 7) 3 x1 1) (rR σ 7) 12 → rF s23 (rR σ 7) 32 = rF (sT (sF σ 0 29 ((rF σ 0 29) + 3)) (rR σ 7) 3 x1 1) (rR σ 7) 32 → rF s23 (rR σ 7) 38 = rF (sT (sF σ 0 29 ((rF σ 0 29) + 3)) (rR σ 7) 3 x1 1) (rR σ 7) 38 → RG (sT (sF σ 0 29 ((rF σ 0 29) + 3)) (rR σ 7) 3 x1 1) s23 (rR σ 7) 0 → post_X14_need (sT (sF σ 0 29 ((rF σ 0 29) + 3)) (rR σ 7) 3 x1 1) 41 s23 → Q s23))
set_option maxHeartbeats 20000000 in
theorem vX14_dots_t (σ : rS) (x1 : Int) (gg : Nat) (hwf : rWF σ) (hx1 : rng x1) (hp : pre_X14_dots_t σ x1 gg) : VC_X14_dots_t σ x1 gg (post_X14_dots_t σ x1 gg) := by
  unfold pre_X14_dots_t at hp
  obtain ⟨hp_1, hp_2, hp_3, hp_4, hp_5, hp_6, hp_7, hp_8, hp_9, hp_10, hp_11⟩ := hp
  unfold rng at hx1
  subst hp_1
  have zr0 := fz_rng σ
  unfold VC_X14_dots_t
  refine ⟨(by (all_goals (repeat' (first | with_reducible intro _ | with_reducible apply And.intro))); all_goals (first | assumption | trivial | omega | (have zz_ := fz_z (by assumption); omega) | (split <;> omega) | (exact fun hf_ => (RG.fA hp_2 R23).trans (tr_ne hp_2 (by omega))) | done)), ?_⟩
  intro hr_; unfold rng at hr_
  refine ⟨(by (try simp only [rng]); (all_goals (repeat' (first | with_reducible intro _ | with_reducible apply And.intro))); all_goals (first | assumption | trivial | ((with_reducible refine Im.i fun hf_ => ?_); first | exact ((fun _ => RG.rf) hf_) | exact ok1.i | (exact LI.z (fun h => absurd h (by decide))) | (exact absurd hf_ (by omega)) | omega) | omega | (have zz_ := fz_z (by assumption); omega) | (split <;> omega) | (exact fun hf_ => (RG.fA hp_2 R23).trans (tr_ne hp_2 (by omega))) | done)), ?_⟩
  refine ⟨(by (try simp only [reduceIte, and_true, true_and, and_false, false_and, and_self, Nat.reduceEqDiff, fz_sF29, rF_sF, rA_sF, rR_sF, tr_sF, rNMp_sF, PNp_sF, GS_F29, OP_F29, NR_F29, LI_F29, RG_l29, RG_r29, TPRp_sF29, WNp_sF29, VMp_sF29, KYp_sF29, PPp_sF29, WFp_sF29, CCp_sF29, rk_n0 hp_2]); (all_goals (repeat' (first | with_reducible intro _ | with_reducible apply And.intro))); all_goals (first | assumption | trivial | ((with_reducible refine Im.i fun hf_ => ?_); first | exact ((fun _ => RG.rf) hf_) | exact ok1.i | (exact LI.z (fun h => absurd h (by decide))) | (exact absurd hf_ (by omega)) | omega) | omega | (have zz_ := fz_z (by assumption); omega) | (split <;> omega) | (exact fun hf_ => (RG.fA hp_2 R23).trans (tr_ne hp_2 (by omega))) | done)), ?_⟩
  have A19 : Im (fz σ = 0) (RG σ (sT σ (rR σ 7) 3 x1 1) (rR σ 7) x1) := fun hf => RG.tst (f := 3) (i := x1) (x := 1) hp_2 ((fun _ => RG.rf) (by omega)) (by decide) (by omega)
  refine ⟨(by (try simp only [pre_X14_need, reduceIte, and_true, true_and, and_false, false_and, and_self, Nat.reduceEqDiff, fz_sF29, rF_sF, rA_sF, rR_sF, tr_sF, rNMp_sF, PNp_sF, GS_F29, OP_F29, NR_F29, LI_F29, RG_l29, RG_r29, TPRp_sF29, WNp_sF29, VMp_sF29, KYp_sF29, PPp_sF29, WFp_sF29, CCp_sF29, fz_sA, rF_sA, rA_sA, rR_sA, rF_sT, rR_sT, sT_sF, fz_sT, rA_sT26 hp_2, rA_sT27 hp_2, rA_sT34 hp_2, rA_sT35 hp_2, rA_sT36 hp_2, rA_sT37 hp_2, rA_sT40 hp_2, TPRp_sT hp_2, WNp_sT hp_2, VMp_sT hp_2, KYp_sT hp_2, PPp_sT hp_2, WFp_sT hp_2, CCp_sT hp_2, rNMp_sT3, PNp_sT3, rk_n0 hp_2]); (all_goals (repeat' (first | with_reducible intro _ | with_reducible apply And.intro))); all_goals (first | assumption | trivial | ((with_reducible refine Im.i fun hf_ => ?_); first | exact (A19 hf_) | exact ok1.i | (exact LI.z (fun h => absurd h (by decide))) | (exact absurd hf_ (by omega)) | omega) | omega | (have zz_ := fz_z (by assumption); omega) | (split <;> omega) | (exact fun hf_ => (RG.fA hp_2 R23).trans (tr_ne hp_2 (by omega))) | done)), ?_⟩
  intro s23 Ws23 e23_0 e23_1 e23_2 e23_3 e23_4 e23_5 e23_6 e23_7 e23_8 e23_9 e23_10 R23 q23
  have q23 := dig_need q23 (by (try simp only [reduceIte, and_true, true_and, and_false, false_and, and_self, Nat.reduceEqDiff, fz_sF29, rF_sF, rA_sF, rR_sF, tr_sF, rNMp_sF, PNp_sF, GS_F29, OP_F29, NR_F29, LI_F29, RG_l29, RG_r29, TPRp_sF29, WNp_sF29, VMp_sF29, KYp_sF29, PPp_sF29, WFp_sF29, CCp_sF29, fz_sA, rF_sA, rA_sA, rR_sA, rF_sT, rR_sT, sT_sF, fz_sT, rA_sT26 hp_2, rA_sT27 hp_2, rA_sT34 hp_2, rA_sT35 hp_2, rA_sT36 hp_2, rA_sT37 hp_2, rA_sT40 hp_2, TPRp_sT hp_2, WNp_sT hp_2, VMp_sT hp_2, KYp_sT hp_2, PPp_sT hp_2, WFp_sT hp_2, CCp_sT hp_2, rNMp_sT3, PNp_sT3, rk_n0 hp_2]); omega)
  obtain ⟨q23_1, q23_2, q23_3, q23_4⟩ := q23
  (try simp only [reduceIte, and_true, true_and, and_false, false_and, and_self, Nat.reduceEqDiff, fz_sF29, rF_sF, rA_sF, rR_sF, tr_sF, rNMp_sF, PNp_sF, GS_F29, OP_F29, NR_F29, LI_F29, RG_l29, RG_r29, TPRp_sF29, WNp_sF29, VMp_sF29, KYp_sF29, PPp_sF29, WFp_sF29, CCp_sF29, fz_sA, rF_sA, rA_sA, rR_sA, rF_sT, rR_sT, sT_sF, fz_sT, rA_sT26 hp_2, rA_sT27 hp_2, rA_sT34 hp_2, rA_sT35 hp_2, rA_sT36 hp_2, rA_sT37 hp_2, rA_sT40 hp_2, TPRp_sT hp_2, WNp_sT hp_2, VMp_sT hp_2, KYp_sT hp_2, PPp_sT hp_2, WFp_sT hp_2, CCp_sT hp_2, rNMp_sT3, PNp_sT3, rk_n0 hp_2] at q23_1 q23_2 q23_3 q23_4 e23_0 e23_1 e23_2 e23_3 e23_4 e23_5 e23_6 e23_7 e23_8 e23_9 e23_10 R23)
  have Ks23 : rR s23 7 = rR σ 7 := by first | assumption | ((try simp only [rR_sF, rR_sA, rR_sT, rR_sL] at e23_0 e23_1 e23_2 e23_3 e23_4 e23_5 e23_6 e23_7 e23_8 e23_9 e23_10 R23); omega)
  have zr23 := fz_rng s23
  have zc23 : fz s23 = 0 → fz σ = 0 := fun hf => by omega
  have A23 : Im (fz s23 = 0) (RG σ s23 (rR σ 7) x1) := fun hf => RG.trk hp_2 (A19 (zc23 hf)) R23 (Or.inr (Or.inl rfl))
  have TPRp_23 := e23_0 hp_3; clear e23_0
  exact (by (try simp only [post_X14_dots_t, Ks23]); (all_goals (repeat' (first | with_reducible intro _ | with_reducible apply And.intro))); all_goals (first | assumption | trivial | ((with_reducible refine Im.i fun hf_ => ?_); first | exact (A23 hf_) | exact ok1.i | (exact LI.z (fun h => absurd h (by decide))) | (exact absurd hf_ (by omega)) | omega) | omega | (have zz_ := fz_z (by assumption); omega) | (split <;> omega) | (exact fun hf_ => (RG.fA hp_2 R23).trans (tr_ne hp_2 (by omega))) | done))
theorem wX14_dots_t (l : Launch) (G : zG) (κ : Nat → Nat) (σ : rS) (x1 : Int) (gg : Nat) (hwf : rWF σ) (hx1 : rng x1) (Q : rS → Prop) (h : VC_X14_dots_t σ x1 gg Q) : rMv l G κ yX14_dots cX14_dots 2 4 61 [.ref (κ 0), iv x1] σ (fun s => rKeep 0x20001c00 0 0 0x8 0 σ s ∧ Q s) := by
  refine zMv.intro (by decide +kernel) (Nat.le_of_ble_eq_true rfl) (fun X hC hR => ?_)
  obtain ⟨g0, h⟩ := h
  refine z_aload_n hC (pc := 0) 0 dX14_dots_0 rfl rfl ?_
  refine z_dup hC (pc := 1) dX14_dots_1 rfl ?_
  refine y_get hC (pc := 2) zf14 rOb_0 29 (v := iv (rF σ 0 29)) dX14_dots_2 zw2496 (rv_i (Or.inl rfl) rfl) (kk := ?_)
  have h := h (hwf.f _ _)
  refine z_iconst hC (pc := 5) (v := Int32.ofInt 3) dX14_dots_5 (by decide) ?_
  refine y_iadd hC (pc := 6) (v := ((rF σ 0 29) + 3)) dX14_dots_6 rfl ?_
  obtain ⟨r10, h⟩ := h
  refine y_putI hC (pc := 7) zf14 rOb_0 29 (x := ((rF σ 0 29) + 3)) dX14_dots_7 zw2496 (Or.inl rfl) rfl rfl (kk := ?_)
  have W11 := hwf.sF (q := 0) (f := 29) (x := ((rF σ 0 29) + 3)) r10
  refine z_aload_n hC (pc := 10) 0 dX14_dots_10 rfl rfl ?_
  refine y_get hC (pc := 11) zf14 rOb_0 7 (v := .ref (κ (rR σ 7))) dX14_dots_11 zw2475 (rv_g rfl rfl g0) (kk := ?_)
  refine y_getN hC (pc := 14) zf13 (rOb_k g0) 3 (v := .ref (κ (1000 * ((rR σ 7) + 1) + 3))) dX14_dots_14 zw2316 (rv_c rfl) (kk := ?_)
  refine z_iload_n hC (pc := 17) 1 dX14_dots_17 rfl rfl ?_
  refine z_iconst hC (pc := 18) (v := Int32.ofInt 1) dX14_dots_18 (by decide) ?_
  obtain ⟨b12, h⟩ := h
  refine y_iast hC (pc := 19) (rAr_k g0 rfl rfl) dX14_dots_19 b12 (v := 1) (kk := ?_)
  have W13 := W11.sA (p := (1000 * ((rR σ 7) + 1) + 3)) (i := x1) (x := 1) (r_lit rfl)
  refine z_aload_n hC (pc := 20) 0 dX14_dots_20 rfl rfl ?_
  refine z_bipush hC (pc := 21) (v := Int32.ofInt 41) dX14_dots_21 (by decide) ?_
  obtain ⟨p14, h⟩ := h
  refine y_callVv hC (pc := 23) (As := [iv 41]) (kX14_need l G κ (sT (sF σ 0 29 ((rF σ 0 29) + 3)) (rR σ 7) 3 x1 1) 41 W13 (r_lit rfl) p14) dmX14_need zf14 rOb_0 dX14_dots_23 zw3136 rfl rfl (Nat.le_of_ble_eq_true rfl) (Nat.le_of_ble_eq_true rfl) (Nat.le_of_ble_eq_true rfl) (Nat.le_of_ble_eq_true rfl) (Nat.le_of_ble_eq_true rfl) (kk := fun s23 Ws23 qs23 => ?_)
  have h := h s23 Ws23 (TPRp.keep qs23.1 rfl rfl rfl) (qs23.1.R rfl) (qs23.1.F rfl) (qs23.1.F rfl) (qs23.1.F rfl) (qs23.1.F rfl) (qs23.1.FG g0 rfl) (qs23.1.FG g0 rfl) (qs23.1.FG g0 rfl) (qs23.1.FG g0 rfl) (qs23.1.FG g0 rfl) (RG.keep (c0 := 0) qs23.1 rfl rfl rfl rfl rfl rfl rfl rfl rfl rfl rfl rfl rfl rfl rfl rfl rfl rfl) qs23.2
  exact y_retv hR dX14_dots_26 Ws23 (Nat.le_of_ble_eq_true rfl) (Nat.le_of_ble_eq_true rfl) ⟨(rKeep.tr (rKeep.tr (rKeep.tr rKeep.rf (rKeep.sF0 (f := 29)) rfl rfl rfl rfl rfl) (rKeep.sAk (f := 3) g0 (by decide)) rfl rfl rfl rfl rfl) qs23.1 rfl rfl rfl rfl rfl), h⟩
theorem kX14_dots_t (l : Launch) (G : zG) (κ : Nat → Nat) (σ : rS) (x1 : Int) (gg : Nat) (hwf : rWF σ) (hx1 : rng x1) (hp : pre_X14_dots_t σ x1 gg) : rMv l G κ yX14_dots cX14_dots 2 4 61 [.ref (κ 0), iv x1] σ (fun s => rKeep 0x20001c00 0 0 0x8 0 σ s ∧ post_X14_dots_t σ x1 gg s) := wX14_dots_t l G κ σ x1 gg hwf hx1 (post_X14_dots_t σ x1 gg) (vX14_dots_t σ x1 gg hwf hx1 hp) 
