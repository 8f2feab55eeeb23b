def FPZ (σ : rS) (gg : Nat) (U : Int) : Prop := 0 ≤ (rF σ 0 17) ∧ (rF σ 0 17) ≤ (rF σ 0 16) ∧ (rF σ 0 16) ≤ 4000 ∧ 0 ≤ U ∧ 1 ≤ (rF σ gg 7) ∧ 0 ≤ (rF σ gg 38) ∧ 0 ≤ (rF σ gg 32) ∧ 0 ≤ (rF σ gg 9) ∧ 0 ≤ (rF σ gg 12) ∧ (rF σ gg 7) + 4 * ((rF σ 0 16) - (rF σ 0 17)) + 4 * U ≤ 41200 + 20000 * fz σ ∧ (rF σ gg 7) ≤ 41300 ∧ (rF σ gg 9) + ((rF σ 0 16) - (rF σ 0 17)) + U ≤ 12000 + 20000 * fz σ ∧ (rF σ gg 9) ≤ 12100 ∧ (rF σ gg 12) + ((rF σ 0 16) - (rF σ 0 17)) + U ≤ 12000 + 20000 * fz σ ∧ (rF σ gg 12) ≤ 12100 ∧ (rF σ gg 38) + ((rF σ 0 16) - (rF σ 0 17)) + U ≤ 12000 + 20000 * fz σ ∧ (rF σ gg 38) ≤ 12100 ∧ 2 * (rF σ gg 32) + ((rF σ 0 16) - (rF σ 0 17)) + U ≤ 10700 + 20000 * fz σ ∧ 2 * (rF σ gg 32) ≤ 10800 ∧ 0 ≤ (rF σ 0 19) ∧ 0 ≤ (rF σ 0 14) ∧ (rF σ 0 14) ≤ 7 ∧ -1 ≤ (rF σ 0 32) ∧ (rF σ 0 32) < 320 ∧ -1 ≤ (rF σ 0 33) ∧ (rF σ 0 33) < 320 ∧ 0 ≤ (rF σ 0 38) ∧ 0 ≤ (rF σ 0 39)
def FQZ (σ σ' : rS) (gg : Nat) : Prop := (rF σ 0 17) ≤ (rF σ' 0 17) ∧ (rF σ' 0 17) ≤ (rF σ 0 16) ∧ fz σ ≤ fz σ' ∧ (rF σ gg 7) ≤ (rF σ' gg 7) ∧ (rF σ' gg 7) + 4 * (rF σ 0 17) ≤ (rF σ gg 7) + 4 * (rF σ' 0 17) + 20000 * fz σ' ∧ (rF σ' gg 7) ≤ 41300 ∧ (rF σ gg 9) ≤ (rF σ' gg 9) ∧ (rF σ' gg 9) + (rF σ 0 17) ≤ (rF σ gg 9) + (rF σ' 0 17) + 20000 * fz σ' ∧ (rF σ' gg 9) ≤ 12100 ∧ (rF σ gg 12) ≤ (rF σ' gg 12) ∧ (rF σ' gg 12) + (rF σ 0 17) ≤ (rF σ gg 12) + (rF σ' 0 17) + 20000 * fz σ' ∧ (rF σ' gg 12) ≤ 12100 ∧ (rF σ gg 38) ≤ (rF σ' gg 38) ∧ (rF σ' gg 38) + (rF σ 0 17) ≤ (rF σ gg 38) + (rF σ' 0 17) + 20000 * fz σ' ∧ (rF σ' gg 38) ≤ 12100 ∧ (rF σ gg 32) ≤ (rF σ' gg 32) ∧ 2 * (rF σ' gg 32) + (rF σ 0 17) ≤ 2 * (rF σ gg 32) + (rF σ' 0 17) + 20000 * fz σ' ∧ 2 * (rF σ' gg 32) ≤ 10800 ∧ -1 ≤ (rF σ' 0 32) ∧ (rF σ' 0 32) < 320 ∧ -1 ≤ (rF σ' 0 33) ∧ (rF σ' 0 33) < 320 ∧ 0 ≤ (rF σ' 0 38) ∧ 0 ≤ (rF σ' 0 39)
def pre_X14_isFileWord_f (σ : rS) (n1 : Nat) : Prop := 0 ≤ (rF σ 0 17) ∧ 0 ≤ (rF σ 0 16) ∧ (rF σ 0 16) ≤ 4000 ∧ rfk (rR σ 15) ∧ (rF σ 0 17) ≤ (rF σ 0 16)
def post_X14_isFileWord_f (σ : rS) (n1 : Nat) (r : Int) : Prop := (r = 0 ∨ r = 1) ∧ (r = 1 → (rF σ 0 17) + (n1 : Int) ≤ (rF σ 0 16) ∨ n1 = 0) ∧ Im (r = 1 ∧ 0 < n1) ((rF σ 0 17) < (rF σ 0 16) ∧ LTp (rA σ (rR σ 15) ((rF σ 0 17))))
def VC_X14_isFileWord_f (σ : rS) (n1 : Nat) (Q : Int → Prop) : Prop := rfk (rR σ 15) ∧ (rng (rF σ 0 17) → (rng (rF σ 0 16) → pre_X14_wordEnd_t σ (rR σ 15) 4000 (rF σ 0 16) (rF σ 0 17) ∧ (∀ (v20 : Int), rng v20 → post_X14_wordEnd_t σ (rR σ 15) 4000 (rF σ 0 16) (rF σ 0 17) v20 → pre_X14_is σ (rR σ 15) 4000 (rF σ 0 17) v20 n1 ∧ (∀ (v24 : Int), rng v24 → post_X14_is σ (rR σ 15) 4000 (rF σ 0 17) v20 n1 v24 → (v24 = 0 ∨ v24 = 1) ∧ Q v24))))
set_option maxHeartbeats 20000000 in
theorem vX14_isFileWord_f (σ : rS) (n1 : Nat) (hwf : rWF σ) (hs1 : n1 < 1000) (hp : pre_X14_isFileWord_f σ n1) : VC_X14_isFileWord_f σ n1 (post_X14_isFileWord_f σ n1) := by
  unfold pre_X14_isFileWord_f at hp
  obtain ⟨hp_1, hp_2, hp_3, hp_4, hp_5⟩ := hp
  unfold VC_X14_isFileWord_f
  refine ⟨(by (all_goals (repeat' (first | with_reducible intro _ | with_reducible apply And.intro))); all_goals (first | assumption | trivial | omega | (have zz_ := fz_z (by assumption); omega) | (split <;> omega) | grind (splits := 20) [Im])), ?_⟩
  intro hr_; unfold rng at hr_
  intro hr_; unfold rng at hr_
  refine ⟨(by (try simp only [pre_X14_wordEnd_t]); (all_goals (repeat' (first | with_reducible intro _ | with_reducible apply And.intro))); all_goals (first | assumption | trivial | omega | (have zz_ := fz_z (by assumption); omega) | (split <;> omega) | grind (splits := 20) [Im])), ?_⟩
  intro v20 hv20 q20
  unfold rng at hv20
  unfold post_X14_wordEnd_t at q20
  obtain ⟨q20_1, q20_2, q20_3, q20_4⟩ := q20
  refine ⟨(by (try simp only [pre_X14_is]); (all_goals (repeat' (first | with_reducible intro _ | with_reducible apply And.intro))); all_goals (first | assumption | trivial | omega | (have zz_ := fz_z (by assumption); omega) | (split <;> omega) | grind (splits := 20) [Im])), ?_⟩
  intro v24 hv24 q24
  unfold rng at hv24
  unfold post_X14_is at q24
  obtain ⟨q24_1, q24_2⟩ := q24
  refine ⟨(by (all_goals (repeat' (first | with_reducible intro _ | with_reducible apply And.intro))); all_goals (first | assumption | trivial | omega | (have zz_ := fz_z (by assumption); omega) | (split <;> omega) | grind (splits := 20) [Im])), ?_⟩
  exact (by (try simp only [post_X14_isFileWord_f]); (all_goals (repeat' (first | with_reducible intro _ | with_reducible apply And.intro))); all_goals (first | assumption | trivial | omega | (have zz_ := fz_z (by assumption); omega) | (split <;> omega) | grind (splits := 20) [Im]))
theorem wX14_isFileWord_f (l : Launch) (G : zG) (κ : Nat → Nat) (σ : rS) (t1 n1 : Nat) (hwf : rWF σ) (hs1 : rSt G t1 n1) (Q : Int → Prop) (h : VC_X14_isFileWord_f σ n1 Q) : rMi l G κ yX14_isFileWord cX14_isFileWord 2 .boolean 5 146 [.ref (κ 0), .ref t1] σ (fun x s => s = σ ∧ Q x) := by
  refine zMi.intro (by decide +kernel) (Nat.le_of_ble_eq_true rfl) (fun X hC hR => ?_)
  refine z_aload_n hC (pc := 0) 0 dX14_isFileWord_0 rfl rfl ?_
  obtain ⟨g10, h⟩ := h
  refine y_get hC (pc := 1) zf14 rOb_0 15 (v := .ref (κ (rR σ 15))) dX14_isFileWord_1 zw2482 (rv_b rfl rfl g10) (kk := ?_)
  refine z_aload_n hC (pc := 4) 0 dX14_isFileWord_4 rfl rfl ?_
  refine y_get hC (pc := 5) zf14 rOb_0 17 (v := iv (rF σ 0 17)) dX14_isFileWord_5 zw2484 (rv_i (Or.inl rfl) rfl) (kk := ?_)
  have h := h (hwf.f _ _)
  refine z_aload_n hC (pc := 8) 0 dX14_isFileWord_8 rfl rfl ?_
  refine y_get hC (pc := 9) zf14 rOb_0 15 (v := .ref (κ (rR σ 15))) dX14_isFileWord_9 zw2482 (rv_b rfl rfl g10) (kk := ?_)
  refine z_aload_n hC (pc := 12) 0 dX14_isFileWord_12 rfl rfl ?_
  refine y_get hC (pc := 13) zf14 rOb_0 16 (v := iv (rF σ 0 16)) dX14_isFileWord_13 zw2483 (rv_i (Or.inl rfl) rfl) (kk := ?_)
  have h := h (hwf.f _ _)
  refine z_aload_n hC (pc := 16) 0 dX14_isFileWord_16 rfl rfl ?_
  refine y_get hC (pc := 17) zf14 rOb_0 17 (v := iv (rF σ 0 17)) dX14_isFileWord_17 zw2484 (rv_i (Or.inl rfl) rfl) (kk := ?_)
  obtain ⟨p11, h⟩ := h
  refine y_callSi hC (pc := 20) (As := [.ref (κ (rR σ 15)), iv (rF σ 0 16), iv (rF σ 0 17)]) (kX14_wordEnd_t l G κ σ (rR σ 15) 4000 (rF σ 0 16) (rF σ 0 17) hwf (rAr_f g10) (hwf.f _ _) (hwf.f _ _) p11) dmX14_wordEnd dX14_isFileWord_20 zw3009 rfl rfl (Nat.le_of_ble_eq_true rfl) (Nat.le_of_ble_eq_true rfl) (Nat.le_of_ble_eq_true rfl) (Nat.le_of_ble_eq_true rfl) (Nat.le_of_ble_eq_true rfl) (kk := fun v20 s20 hv20 Ws20 qs20 => ?_)
  obtain ⟨es20, qs20⟩ := qs20
  have es20 := es20.symm
  subst es20
  have h := h v20 hv20 qs20
  refine z_aload_n hC (pc := 23) 1 dX14_isFileWord_23 rfl rfl ?_
  obtain ⟨p12, h⟩ := h
  refine y_callSi hC (pc := 24) (As := [.ref (κ (rR σ 15)), iv (rF σ 0 17), iv v20, .ref t1]) (kX14_is l G κ σ (rR σ 15) 4000 (rF σ 0 17) v20 t1 n1 hwf (rAr_f g10) (hwf.f _ _) hv20 hs1 p12) dmX14_is dX14_isFileWord_24 zw3018 rfl rfl (Nat.le_of_ble_eq_true rfl) (Nat.le_of_ble_eq_true rfl) (Nat.le_of_ble_eq_true rfl) (Nat.le_of_ble_eq_true rfl) (Nat.le_of_ble_eq_true rfl) (kk := fun v24 s24 hv24 Ws24 qs24 => ?_)
  obtain ⟨es24, qs24⟩ := qs24
  have es24 := es24.symm
  subst es24
  have h := h v24 hv24 qs24
  obtain ⟨z13, h⟩ := h
  exact y_reti hR dX14_isFileWord_27 (r_nZ z13) hv24 hwf (Nat.le_of_ble_eq_true rfl) (Nat.le_of_ble_eq_true rfl) ⟨rfl, h⟩
theorem kX14_isFileWord_f (l : Launch) (G : zG) (κ : Nat → Nat) (σ : rS) (t1 n1 : Nat) (hwf : rWF σ) (hs1 : rSt G t1 n1) (hp : pre_X14_isFileWord_f σ n1) : rMi l G κ yX14_isFileWord cX14_isFileWord 2 .boolean 5 146 [.ref (κ 0), .ref t1] σ (fun x s => s = σ ∧ post_X14_isFileWord_f σ n1 x) := wX14_isFileWord_f l G κ σ t1 n1 hwf hs1 (post_X14_isFileWord_f σ n1) (vX14_isFileWord_f σ n1 hwf hs1.1 hp) 
def pre_X14_addByte_f (σ : rS) (x1 : Int) (x2 : Int) : Prop := 0 ≤ (rF σ 0 28) ∧ (rF σ 0 28) < 4001 ∧ 0 ≤ x2 ∧ x2 ≤ 4000 ∧ TPqp σ
def post_X14_addByte_f (σ : rS) (x1 : Int) (x2 : Int) (σ' : rS) : Prop := (rF σ' 0 28) = (rF σ 0 28) + 1 ∧ TPqp σ'
def VC_X14_addByte_f (σ : rS) (x1 : Int) (x2 : Int) (Q : rS → Prop) : Prop := (rng (rF σ 0 28) → (0 ≤ (rF σ 0 28) ∧ (rF σ 0 28) < 4001) ∧ (0 ≤ (rF σ 0 28) ∧ (rF σ 0 28) < 4001) ∧ rng ((rF σ 0 28) + 1) ∧ Q (sF (sA (sA σ 1026 (rF σ 0 28) (inar .byte (f_i2b x1))) 1027 (rF σ 0 28) x2) 0 28 ((rF σ 0 28) + 1)))
set_option maxHeartbeats 20000000 in
theorem vX14_addByte_f (σ : rS) (x1 : Int) (x2 : Int) (hwf : rWF σ) (hx1 : rng x1) (hx2 : rng x2) (hp : pre_X14_addByte_f σ x1 x2) : VC_X14_addByte_f σ x1 x2 (post_X14_addByte_f σ x1 x2) := by
  unfold pre_X14_addByte_f at hp
  obtain ⟨hp_1, hp_2, hp_3, hp_4, hp_5⟩ := hp
  unfold rng at hx1 hx2
  unfold VC_X14_addByte_f
  intro hr_; unfold rng at hr_
  refine ⟨(by (all_goals (repeat' (first | with_reducible intro _ | with_reducible apply And.intro))); all_goals (first | assumption | trivial | omega | (have zz_ := fz_z (by assumption); omega) | (split <;> omega) | (exact TPqp.add hp_5 ⟨hp_3, hp_4⟩) | grind)), ?_⟩
  refine ⟨(by (try simp only [reduceIte, and_true, true_and, and_false, false_and, and_self, Nat.reduceEqDiff, fz_sA, rF_sA, rA_sA, rR_sA, rNMp_a26, PNp_a26, GS_a26, OP_a26, NR_a26, LI_a26, tr_a26, RG_la26, RG_ra26, TPRp_sA26, WNp_sA26, VMp_sA26, KYp_sA26, PPp_sA26, WFp_sA26, CCp_sA26]); (all_goals (repeat' (first | with_reducible intro _ | with_reducible apply And.intro))); all_goals (first | assumption | trivial | omega | (have zz_ := fz_z (by assumption); omega) | (split <;> omega) | (exact TPqp.add hp_5 ⟨hp_3, hp_4⟩) | grind)), ?_⟩
  refine ⟨(by (try simp only [rng, reduceIte, and_true, true_and, and_false, false_and, and_self, Nat.reduceEqDiff, fz_sA, rF_sA, rA_sA, rR_sA, rNMp_a26, PNp_a26, GS_a26, OP_a26, NR_a26, LI_a26, tr_a26, RG_la26, RG_ra26, TPRp_sA26, WNp_sA26, VMp_sA26, KYp_sA26, PPp_sA26, WFp_sA26, CCp_sA26, rNMp_a27, PNp_a27, GS_a27, OP_a27, NR_a27, LI_a27, tr_a27, RG_la27, RG_ra27, WNp_sA27, VMp_sA27, KYp_sA27, PPp_sA27, WFp_sA27]); (all_goals (repeat' (first | with_reducible intro _ | with_reducible apply And.intro))); all_goals (first | assumption | trivial | omega | (have zz_ := fz_z (by assumption); omega) | (split <;> omega) | (exact TPqp.add hp_5 ⟨hp_3, hp_4⟩) | grind)), ?_⟩
  exact (by (try simp only [post_X14_addByte_f, reduceIte, and_true, true_and, and_false, false_and, and_self, Nat.reduceEqDiff, fz_sA, rF_sA, rA_sA, rR_sA, rNMp_a26, PNp_a26, GS_a26, OP_a26, NR_a26, LI_a26, tr_a26, RG_la26, RG_ra26, TPRp_sA26, WNp_sA26, VMp_sA26, KYp_sA26, PPp_sA26, WFp_sA26, CCp_sA26, rNMp_a27, PNp_a27, GS_a27, OP_a27, NR_a27, LI_a27, tr_a27, RG_la27, RG_ra27, WNp_sA27, VMp_sA27, KYp_sA27, PPp_sA27, WFp_sA27, fz_sF28, rF_sF, rA_sF, rR_sF, tr_sF, rNMp_sF, PNp_sF, GS_F28, OP_F28, NR_F28, LI_F28, RG_l28, RG_r28, WNp_sF28, VMp_sF28, KYp_sF28, PPp_sF28, WFp_sF28]); (all_goals (repeat' (first | with_reducible intro _ | with_reducible apply And.intro))); all_goals (first | assumption | trivial | omega | (have zz_ := fz_z (by assumption); omega) | (split <;> omega) | (exact TPqp.add hp_5 ⟨hp_3, hp_4⟩) | grind))
theorem wX14_addByte_f (l : Launch) (G : zG) (κ : Nat → Nat) (σ : rS) (x1 : Int) (x2 : Int) (hwf : rWF σ) (hx1 : rng x1) (hx2 : rng x2) (Q : rS → Prop) (h : VC_X14_addByte_f σ x1 x2 Q) : rMv l G κ yX14_addByte cX14_addByte 3 1 0 [.ref (κ 0), iv x1, iv x2] σ (fun s => rKeep 0x10000000 0 0xc000000 0 0 σ s ∧ Q s) := by
  refine zMv.intro (by decide +kernel) (Nat.le_of_ble_eq_true rfl) (fun X hC hR => ?_)
  refine z_aload_n hC (pc := 0) 0 dX14_addByte_0 rfl rfl ?_
  refine y_get hC (pc := 1) zf14 rOb_0 26 (v := .ref (κ 1026)) dX14_addByte_1 zw2493 (rv_c rfl) (kk := ?_)
  refine z_aload_n hC (pc := 4) 0 dX14_addByte_4 rfl rfl ?_
  refine y_get hC (pc := 5) zf14 rOb_0 28 (v := iv (rF σ 0 28)) dX14_addByte_5 zw2495 (rv_i (Or.inl rfl) rfl) (kk := ?_)
  have h := h (hwf.f _ _)
  refine z_iload_n hC (pc := 8) 1 dX14_addByte_8 rfl rfl ?_
  refine y_i2b hC (pc := 9) dX14_addByte_9 ?_
  obtain ⟨b10, h⟩ := h
  refine y_bast hC (pc := 10) (rAr_m rfl) dX14_addByte_10 b10 (v := (f_i2b x1)) (kk := ?_)
  have W11 := hwf.sA (p := 1026) (i := (rF σ 0 28)) (x := (inar .byte (f_i2b x1))) (inar_rng _ _)
  refine z_aload_n hC (pc := 11) 0 dX14_addByte_11 rfl rfl ?_
  refine y_get hC (pc := 12) zf14 rOb_0 27 (v := .ref (κ 1027)) dX14_addByte_12 zw2494 (rv_c rfl) (kk := ?_)
  refine z_aload_n hC (pc := 15) 0 dX14_addByte_15 rfl rfl ?_
  refine y_get hC (pc := 16) zf14 rOb_0 28 (v := iv (rF σ 0 28)) dX14_addByte_16 zw2495 (rv_i (Or.inl rfl) rfl) (kk := ?_)
  refine z_iload_n hC (pc := 19) 2 dX14_addByte_19 rfl rfl ?_
  obtain ⟨b12, h⟩ := h
  refine y_iast hC (pc := 20) (rAr_m rfl) dX14_addByte_20 b12 (v := x2) (kk := ?_)
  have W13 := W11.sA (p := 1027) (i := (rF σ 0 28)) (x := x2) hx2
  refine z_aload_n hC (pc := 21) 0 dX14_addByte_21 rfl rfl ?_
  refine z_dup hC (pc := 22) dX14_addByte_22 rfl ?_
  refine y_get hC (pc := 23) zf14 rOb_0 28 (v := iv (rF σ 0 28)) dX14_addByte_23 zw2495 (rv_i (Or.inl rfl) rfl) (kk := ?_)
  refine z_iconst hC (pc := 26) (v := Int32.ofInt 1) dX14_addByte_26 (by decide) ?_
  refine y_iadd hC (pc := 27) (v := ((rF σ 0 28) + 1)) dX14_addByte_27 rfl ?_
  obtain ⟨r14, h⟩ := h
  refine y_putI hC (pc := 28) zf14 rOb_0 28 (x := ((rF σ 0 28) + 1)) dX14_addByte_28 zw2495 (Or.inl rfl) rfl rfl (kk := ?_)
  have W15 := W13.sF (q := 0) (f := 28) (x := ((rF σ 0 28) + 1)) r14
  exact y_retv hR dX14_addByte_31 W15 (Nat.le_of_ble_eq_true rfl) (Nat.le_of_ble_eq_true rfl) ⟨(rKeep.tr (rKeep.tr (rKeep.tr rKeep.rf (rKeep.sA0 (f := 26) (by decide)) rfl rfl rfl rfl rfl) (rKeep.sA0 (f := 27) (by decide)) rfl rfl rfl rfl rfl) (rKeep.sF0 (f := 28)) rfl rfl rfl rfl rfl), h⟩
theorem kX14_addByte_f (l : Launch) (G : zG) (κ : Nat → Nat) (σ : rS) (x1 : Int) (x2 : Int) (hwf : rWF σ) (hx1 : rng x1) (hx2 : rng x2) (hp : pre_X14_addByte_f σ x1 x2) : rMv l G κ yX14_addByte cX14_addByte 3 1 0 [.ref (κ 0), iv x1, iv x2] σ (fun s => rKeep 0x10000000 0 0xc000000 0 0 σ s ∧ post_X14_addByte_f σ x1 x2 s) := wX14_addByte_f l G κ σ x1 x2 hwf hx1 hx2 (post_X14_addByte_f σ x1 x2) (vX14_addByte_f σ x1 x2 hwf hx1 hx2 hp) 
def pre_X14_packed_f (σ : rS) (x1 : Int) (x2 : Int) : Prop := 0 ≤ x1 ∧ x1 ≤ x2 ∧ x2 ≤ 4000 ∧ rfk (rR σ 15) ∧ (rF σ 0 28) = 0 ∧ (rF σ 0 16) ≤ 4000 ∧ TPqp σ
def post_X14_packed_f (σ : rS) (x1 : Int) (x2 : Int) (σ' : rS) : Prop := 0 ≤ (rF σ' 0 28) ∧ (rF σ' 0 28) ≤ x2 - x1 ∧ TPqp σ'
def inv_X14_packed_f_2 (σ : rS) (x1 : Int) (x2 : Int)  (s : rS) (k : Int) : Prop := x1 ≤ k ∧ k ≤ x2 ∧ 0 ≤ (rF s 0 28) ∧ (rF s 0 28) + x1 ≤ k ∧ TPqp s
def mu_X14_packed_f_2 (σ : rS) (x1 : Int) (x2 : Int) (s : rS) (k : Int) : Nat := (1 + (x2 - k).toNat)
def inv_X14_packed_f_21 (σ : rS) (x1 : Int) (x2 : Int) (m2 : Nat) (s : rS) (k : Int) : Prop := x1 ≤ k ∧ k ≤ x2 ∧ 0 ≤ (rF s 0 28) ∧ (rF s 0 28) + x1 ≤ k ∧ (x2 - k).toNat + 1 < m2 ∧ TPqp s
def mu_X14_packed_f_21 (σ : rS) (x1 : Int) (x2 : Int) (s : rS) (k : Int) : Nat := (1 + (x2 - k).toNat)
def VC_X14_packed_f (σ : rS) (x1 : Int) (x2 : Int) (Q : rS → Prop) : Prop := (inv_X14_packed_f_2 σ x1 x2 σ x1)
def VC_X14_packed_f_21 (σ : rS) (x1 : Int) (x2 : Int) (Q : rS → Prop) : Prop := ∀ (m2 : Nat) (s21 : rS) (y21_3 : Int), rWF s21 → rng y21_3 → rR s21 15 = rR σ 15 → rF s21 0 16 = rF σ 0 16 → inv_X14_packed_f_21 σ x1 x2 m2 s21 y21_3 → (((x2 ≤ y21_3 → (inv_X14_packed_f_2 σ x1 x2 s21 y21_3 ∧ (mu_X14_packed_f_2 σ x1 x2 s21 y21_3) < m2)) ∧ (¬ x2 ≤ y21_3 → rfk (rR s21 15) ∧ (0 ≤ y21_3 ∧ y21_3 < 4000) ∧ (rng (rA s21 (rR s21 15) y21_3) → (((rA s21 (rR s21 15) y21_3) = 32 → rng (y21_3 + 1) ∧ (inv_X14_packed_f_21 σ x1 x2 m2 s21 (y21_3 + 1) ∧ (mu_X14_packed_f_21 σ x1 x2 s21 (y21_3 + 1)) < (mu_X14_packed_f_21 σ x1 x2 s21 y21_3))) ∧ (¬ (rA s21 (rR s21 15) y21_3) = 32 → (0 ≤ y21_3 ∧ y21_3 < 4000) ∧ ((¬ (rA s21 (rR s21 15) y21_3) = 9 → (inv_X14_packed_f_2 σ x1 x2 s21 y21_3 ∧ (mu_X14_packed_f_2 σ x1 x2 s21 y21_3) < m2)) ∧ ((rA s21 (rR s21 15) y21_3) = 9 → rng (y21_3 + 1) ∧ (inv_X14_packed_f_21 σ x1 x2 m2 s21 (y21_3 + 1) ∧ (mu_X14_packed_f_21 σ x1 x2 s21 (y21_3 + 1)) < (mu_X14_packed_f_21 σ x1 x2 s21 y21_3))))))))))
def VC_X14_packed_f_21m (σ : rS) (x1 : Int) (x2 : Int) : Prop := ∀ (m2 : Nat) (s21 : rS) (y21_3 : Int), rWF s21 → rng y21_3 → rR s21 15 = rR σ 15 → rF s21 0 16 = rF σ 0 16 → inv_X14_packed_f_21 σ x1 x2 m2 s21 y21_3 → 0 < (mu_X14_packed_f_21 σ x1 x2 s21 y21_3)
def VC_X14_packed_f_2 (σ : rS) (x1 : Int) (x2 : Int) (Q : rS → Prop) : Prop := ∀ (s2 : rS) (y2_3 : Int), rWF s2 → rng y2_3 → rR s2 15 = rR σ 15 → rF s2 0 16 = rF σ 0 16 → inv_X14_packed_f_2 σ x1 x2 s2 y2_3 → (((x2 ≤ y2_3 → Q s2) ∧ (¬ x2 ≤ y2_3 → rfk (rR s2 15) ∧ (0 ≤ y2_3 ∧ y2_3 < 4000) ∧ (rng (rA s2 (rR s2 15) y2_3) → ((¬ (rA s2 (rR s2 15) y2_3) = 10 → (0 ≤ y2_3 ∧ y2_3 < 4000) ∧ pre_X14_addByte_f s2 (rA s2 (rR s2 15) y2_3) y2_3 ∧ (∀ (s62 : rS), rWF s62 → rR s62 15 = rR s2 15 → rF s62 0 16 = rF s2 0 16 → post_X14_addByte_f s2 (rA s2 (rR s2 15) y2_3) y2_3 s62 → rng (y2_3 + 1) ∧ (inv_X14_packed_f_2 σ x1 x2 s62 (y2_3 + 1) ∧ (mu_X14_packed_f_2 σ x1 x2 s62 (y2_3 + 1)) < (mu_X14_packed_f_2 σ x1 x2 s2 y2_3)))) ∧ ((rA s2 (rR s2 15) y2_3) = 10 → rng (y2_3 + 1) ∧ (inv_X14_packed_f_21 σ x1 x2 (mu_X14_packed_f_2 σ x1 x2 s2 y2_3) s2 (y2_3 + 1))))))))
def VC_X14_packed_f_2m (σ : rS) (x1 : Int) (x2 : Int) : Prop := ∀ (s2 : rS) (y2_3 : Int), rWF s2 → rng y2_3 → rR s2 15 = rR σ 15 → rF s2 0 16 = rF σ 0 16 → inv_X14_packed_f_2 σ x1 x2 s2 y2_3 → 0 < (mu_X14_packed_f_2 σ x1 x2 s2 y2_3)
set_option maxHeartbeats 20000000 in
theorem vX14_packed_f (σ : rS) (x1 : Int) (x2 : Int) (hwf : rWF σ) (hx1 : rng x1) (hx2 : rng x2) (hp : pre_X14_packed_f σ x1 x2) : VC_X14_packed_f σ x1 x2 (post_X14_packed_f σ x1 x2) := by
  unfold pre_X14_packed_f at hp
  obtain ⟨hp_1, hp_2, hp_3, hp_4, hp_5, hp_6, hp_7⟩ := hp
  unfold rng at hx1 hx2
  unfold VC_X14_packed_f
  exact (by (try simp only [inv_X14_packed_f_2]); (all_goals (repeat' (first | with_reducible intro _ | with_reducible apply And.intro))); all_goals (first | assumption | trivial | omega | (have zz_ := fz_z (by assumption); omega) | (split <;> omega) | (exact TPqp.mv (by assumption) (by omega) (by assumption)) | grind (splits := 20)))
set_option maxHeartbeats 20000000 in
theorem vX14_packed_f_21 (σ : rS) (x1 : Int) (x2 : Int) (hwf : rWF σ) (hx1 : rng x1) (hx2 : rng x2) (hp : pre_X14_packed_f σ x1 x2) : VC_X14_packed_f_21 σ x1 x2 (post_X14_packed_f σ x1 x2) := by
  unfold pre_X14_packed_f at hp
  obtain ⟨hp_1, hp_2, hp_3, hp_4, hp_5, hp_6, hp_7⟩ := hp
  unfold rng at hx1 hx2
  unfold VC_X14_packed_f_21
  intro m2 s21 y21_3 Ws21 hy21_3 e21_0 e21_1 I21
  unfold inv_X14_packed_f_21 at I21
  obtain ⟨I21_1, I21_2, I21_3, I21_4, I21_5, I21_6⟩ := I21
  refine ⟨fun c23 => ?_, fun c23 => ?_⟩
  · exact (by (try simp only [inv_X14_packed_f_2, mu_X14_packed_f_2]); (all_goals (repeat' (first | with_reducible intro _ | with_reducible apply And.intro))); all_goals (first | assumption | trivial | omega | (have zz_ := fz_z (by assumption); omega) | (split <;> omega) | (exact TPqp.mv (by assumption) (by omega) (by assumption)) | grind (splits := 20)))
  · refine ⟨(by (all_goals (repeat' (first | with_reducible intro _ | with_reducible apply And.intro))); all_goals (first | assumption | trivial | omega | (have zz_ := fz_z (by assumption); omega) | (split <;> omega) | (exact TPqp.mv (by assumption) (by omega) (by assumption)) | grind (splits := 20))), ?_⟩
    refine ⟨(by (all_goals (repeat' (first | with_reducible intro _ | with_reducible apply And.intro))); all_goals (first | assumption | trivial | omega | (have zz_ := fz_z (by assumption); omega) | (split <;> omega) | (exact TPqp.mv (by assumption) (by omega) (by assumption)) | grind (splits := 20))), ?_⟩
    intro hr_; unfold rng at hr_
    refine ⟨fun c34 => ?_, fun c34 => ?_⟩
    · refine ⟨(by (try simp only [rng]); (all_goals (repeat' (first | with_reducible intro _ | with_reducible apply And.intro))); all_goals (first | assumption | trivial | omega | (have zz_ := fz_z (by assumption); omega) | (split <;> omega) | (exact TPqp.mv (by assumption) (by omega) (by assumption)) | grind (splits := 20))), ?_⟩
      exact (by (try simp only [inv_X14_packed_f_21, mu_X14_packed_f_21, mu_X14_packed_f_21]); (all_goals (repeat' (first | with_reducible intro _ | with_reducible apply And.intro))); all_goals (first | assumption | trivial | omega | (have zz_ := fz_z (by assumption); omega) | (split <;> omega) | (exact TPqp.mv (by assumption) (by omega) (by assumption)) | grind (splits := 20)))
    · refine ⟨(by (all_goals (repeat' (first | with_reducible intro _ | with_reducible apply And.intro))); all_goals (first | assumption | trivial | omega | (have zz_ := fz_z (by assumption); omega) | (split <;> omega) | (exact TPqp.mv (by assumption) (by omega) (by assumption)) | grind (splits := 20))), ?_⟩
      refine ⟨fun c45 => ?_, fun c45 => ?_⟩
      · exact (by (try simp only [inv_X14_packed_f_2, mu_X14_packed_f_2]); (all_goals (repeat' (first | with_reducible intro _ | with_reducible apply And.intro))); all_goals (first | assumption | trivial | omega | (have zz_ := fz_z (by assumption); omega) | (split <;> omega) | (exact TPqp.mv (by assumption) (by omega) (by assumption)) | grind (splits := 20)))
      · refine ⟨(by (try simp only [rng]); (all_goals (repeat' (first | with_reducible intro _ | with_reducible apply And.intro))); all_goals (first | assumption | trivial | omega | (have zz_ := fz_z (by assumption); omega) | (split <;> omega) | (exact TPqp.mv (by assumption) (by omega) (by assumption)) | grind (splits := 20))), ?_⟩
        exact (by (try simp only [inv_X14_packed_f_21, mu_X14_packed_f_21, mu_X14_packed_f_21]); (all_goals (repeat' (first | with_reducible intro _ | with_reducible apply And.intro))); all_goals (first | assumption | trivial | omega | (have zz_ := fz_z (by assumption); omega) | (split <;> omega) | (exact TPqp.mv (by assumption) (by omega) (by assumption)) | grind (splits := 20)))
set_option maxHeartbeats 20000000 in
theorem vX14_packed_f_21m (σ : rS) (x1 : Int) (x2 : Int) (hwf : rWF σ) (hx1 : rng x1) (hx2 : rng x2) (hp : pre_X14_packed_f σ x1 x2) : VC_X14_packed_f_21m σ x1 x2 := by
  unfold pre_X14_packed_f at hp
  obtain ⟨hp_1, hp_2, hp_3, hp_4, hp_5, hp_6, hp_7⟩ := hp
  unfold rng at hx1 hx2
  unfold VC_X14_packed_f_21m
  (try simp only [inv_X14_packed_f_21, mu_X14_packed_f_21]); (all_goals (repeat' (first | with_reducible intro _ | with_reducible apply And.intro))); all_goals (first | assumption | omega | grind (splits := 20))
set_option maxHeartbeats 20000000 in
theorem vX14_packed_f_2 (σ : rS) (x1 : Int) (x2 : Int) (hwf : rWF σ) (hx1 : rng x1) (hx2 : rng x2) (hp : pre_X14_packed_f σ x1 x2) : VC_X14_packed_f_2 σ x1 x2 (post_X14_packed_f σ x1 x2) := by
  unfold pre_X14_packed_f at hp
  obtain ⟨hp_1, hp_2, hp_3, hp_4, hp_5, hp_6, hp_7⟩ := hp
  unfold rng at hx1 hx2
  unfold VC_X14_packed_f_2
  intro s2 y2_3 Ws2 hy2_3 e2_0 e2_1 I2
  unfold inv_X14_packed_f_2 at I2
  obtain ⟨I2_1, I2_2, I2_3, I2_4, I2_5⟩ := I2
  refine ⟨fun c4 => ?_, fun c4 => ?_⟩
  · exact (by (try simp only [post_X14_packed_f]); (all_goals (repeat' (first | with_reducible intro _ | with_reducible apply And.intro))); all_goals (first | assumption | trivial | omega | (have zz_ := fz_z (by assumption); omega) | (split <;> omega) | (exact TPqp.mv (by assumption) (by omega) (by assumption)) | grind (splits := 20)))
  · refine ⟨(by (all_goals (repeat' (first | with_reducible intro _ | with_reducible apply And.intro))); all_goals (first | assumption | trivial | omega | (have zz_ := fz_z (by assumption); omega) | (split <;> omega) | (exact TPqp.mv (by assumption) (by omega) (by assumption)) | grind (splits := 20))), ?_⟩
    refine ⟨(by (all_goals (repeat' (first | with_reducible intro _ | with_reducible apply And.intro))); all_goals (first | assumption | trivial | omega | (have zz_ := fz_z (by assumption); omega) | (split <;> omega) | (exact TPqp.mv (by assumption) (by omega) (by assumption)) | grind (splits := 20))), ?_⟩
    intro hr_; unfold rng at hr_
    refine ⟨fun c15 => ?_, fun c15 => ?_⟩
    · refine ⟨(by (all_goals (repeat' (first | with_reducible intro _ | with_reducible apply And.intro))); all_goals (first | assumption | trivial | omega | (have zz_ := fz_z (by assumption); omega) | (split <;> omega) | (exact TPqp.mv (by assumption) (by omega) (by assumption)) | grind (splits := 20))), ?_⟩
      refine ⟨(by (try simp only [pre_X14_addByte_f]); (all_goals (repeat' (first | with_reducible intro _ | with_reducible apply And.intro))); all_goals (first | assumption | trivial | omega | (have zz_ := fz_z (by assumption); omega) | (split <;> omega) | (exact TPqp.mv (by assumption) (by omega) (by assumption)) | grind (splits := 20))), ?_⟩
      intro s62 Ws62 e62_0 e62_1 q62
      unfold post_X14_addByte_f at q62
      obtain ⟨q62_1, q62_2⟩ := q62
      refine ⟨(by (try simp only [rng]); (all_goals (repeat' (first | with_reducible intro _ | with_reducible apply And.intro))); all_goals (first | assumption | trivial | omega | (have zz_ := fz_z (by assumption); omega) | (split <;> omega) | (exact TPqp.mv (by assumption) (by omega) (by assumption)) | grind (splits := 20))), ?_⟩
      exact (by (try simp only [inv_X14_packed_f_2, mu_X14_packed_f_2, mu_X14_packed_f_2]); (all_goals (repeat' (first | with_reducible intro _ | with_reducible apply And.intro))); all_goals (first | assumption | trivial | omega | (have zz_ := fz_z (by assumption); omega) | (split <;> omega) | (exact TPqp.mv (by assumption) (by omega) (by assumption)) | grind (splits := 20)))
    · refine ⟨(by (try simp only [rng]); (all_goals (repeat' (first | with_reducible intro _ | with_reducible apply And.intro))); all_goals (first | assumption | trivial | omega | (have zz_ := fz_z (by assumption); omega) | (split <;> omega) | (exact TPqp.mv (by assumption) (by omega) (by assumption)) | grind (splits := 20))), ?_⟩
      exact (by (try simp only [inv_X14_packed_f_21, mu_X14_packed_f_2]); (all_goals (repeat' (first | with_reducible intro _ | with_reducible apply And.intro))); all_goals (first | assumption | trivial | omega | (have zz_ := fz_z (by assumption); omega) | (split <;> omega) | (exact TPqp.mv (by assumption) (by omega) (by assumption)) | grind (splits := 20)))
set_option maxHeartbeats 20000000 in
theorem vX14_packed_f_2m (σ : rS) (x1 : Int) (x2 : Int) (hwf : rWF σ) (hx1 : rng x1) (hx2 : rng x2) (hp : pre_X14_packed_f σ x1 x2) : VC_X14_packed_f_2m σ x1 x2 := by
  unfold pre_X14_packed_f at hp
  obtain ⟨hp_1, hp_2, hp_3, hp_4, hp_5, hp_6, hp_7⟩ := hp
  unfold rng at hx1 hx2
  unfold VC_X14_packed_f_2m
  (try simp only [inv_X14_packed_f_2, mu_X14_packed_f_2]); (all_goals (repeat' (first | with_reducible intro _ | with_reducible apply And.intro))); all_goals (first | assumption | omega | grind (splits := 20))
theorem wX14_packed_f (l : Launch) (G : zG) (κ : Nat → Nat) (σ : rS) (x1 : Int) (x2 : Int) (hwf : rWF σ) (hx1 : rng x1) (hx2 : rng x2) (Q : rS → Prop) (h : VC_X14_packed_f σ x1 x2 Q) (h_21 : VC_X14_packed_f_21 σ x1 x2 Q) (h_21m : VC_X14_packed_f_21m σ x1 x2) (h_2 : VC_X14_packed_f_2 σ x1 x2 Q) (h_2m : VC_X14_packed_f_2m σ x1 x2) : rMv l G κ yX14_packed cX14_packed 4 2 22 [.ref (κ 0), iv x1, iv x2] σ (fun s => rKeep 0x10000000 0 0xc000000 0 0 σ s ∧ Q s) := by
  refine zMv.intro (by decide +kernel) (Nat.le_of_ble_eq_true rfl) (fun X hC hR => ?_)
  refine z_iload_n hC (pc := 0) 1 dX14_packed_0 rfl rfl ?_
  refine z_istore_n hC (pc := 1) (lv' := [(3, iv x1), (0, .ref (κ 0)), (1, iv x1), (2, iv x2)]) dX14_packed_1 rfl (by decide) rfl ?_
  have j2 : ∀ (d2 : Nat), ∀ (s2 : rS) (y2_3 : Int), rWF s2 → rng y2_3 → rKeep 0x10000000 0 0xc000000 0 0 σ s2 → inv_X14_packed_f_2 σ x1 x2 s2 y2_3 → (mu_X14_packed_f_2 σ x1 x2 s2 y2_3) ≤ d2 → zS X G 4 (rW G κ s2) [(0, .ref (κ 0)), (2, iv x2), (3, iv y2_3)] 0 0 2 [] := by
    intro d2
    induction d2 with
    | zero =>
      intro s2 y2_3 Ws2 hy2_3 kJ hI hmu
      exact absurd hmu (by have := h_2m  s2 y2_3 Ws2 hy2_3 (kJ.R rfl) (kJ.F rfl) hI; omega)
    | succ d2 ih2 =>
      intro s2 y2_3 Ws2 hy2_3 kJ hI hmu2
      have h := h_2  s2 y2_3 Ws2 hy2_3 (kJ.R rfl) (kJ.F rfl) hI
      refine z_iload_n hC (pc := 2) 2 dX14_packed_2 rfl rfl ?_
      refine z_iload_n hC (pc := 3) 1 dX14_packed_3 rfl rfl ?_
      obtain ⟨hT, hF⟩ := h
      refine y_icmp_ge hC (pc := 4) 71 hy2_3 hx2 dX14_packed_4 (by decide) (fun c => ?_) (fun c => ?_)
      · have h := hT c
        exact y_retv hR dX14_packed_71 Ws2 (Nat.le_of_ble_eq_true rfl) (Nat.le_of_ble_eq_true rfl) ⟨(rKeep.tr rKeep.rf kJ rfl rfl rfl rfl rfl), h⟩
      · have h := hF c
        refine z_aload_n hC (pc := 7) 0 dX14_packed_7 rfl rfl ?_
        obtain ⟨g10, h⟩ := h
        refine y_get hC (pc := 8) zf14 rOb_0 15 (v := .ref (κ (rR s2 15))) dX14_packed_8 zw2482 (rv_b rfl rfl g10) (kk := ?_)
        refine z_iload_n hC (pc := 11) 2 dX14_packed_11 rfl rfl ?_
        obtain ⟨b11, h⟩ := h
        refine y_bald hC (pc := 12) (rAr_f g10) dX14_packed_12 b11 (v := (rA s2 (rR s2 15) y2_3)) rfl (kk := ?_)
        have h := h (Ws2.a _ _)
        refine z_bipush hC (pc := 13) (v := Int32.ofInt 10) dX14_packed_13 (by decide) ?_
        obtain ⟨hT, hF⟩ := h
        refine y_icmp_ne hC (pc := 15) 54 (Ws2.a _ _) (r_lit rfl) dX14_packed_15 (by decide) (fun c => ?_) (fun c => ?_)
        · have h := hT c
          refine z_aload_n hC (pc := 54) 0 dX14_packed_54 rfl rfl ?_
          refine z_aload_n hC (pc := 55) 0 dX14_packed_55 rfl rfl ?_
          refine y_get hC (pc := 56) zf14 rOb_0 15 (v := .ref (κ (rR s2 15))) dX14_packed_56 zw2482 (rv_b rfl rfl g10) (kk := ?_)
          refine z_iload_n hC (pc := 59) 2 dX14_packed_59 rfl rfl ?_
          obtain ⟨b12, h⟩ := h
          refine y_bald hC (pc := 60) (rAr_f g10) dX14_packed_60 b12 (v := (rA s2 (rR s2 15) y2_3)) rfl (kk := ?_)
          refine z_iload_n hC (pc := 61) 2 dX14_packed_61 rfl rfl ?_
          obtain ⟨p13, h⟩ := h
          refine y_callVv hC (pc := 62) (As := [iv (rA s2 (rR s2 15) y2_3), iv y2_3]) (kX14_addByte_f l G κ s2 (rA s2 (rR s2 15) y2_3) y2_3 Ws2 (Ws2.a _ _) hy2_3 p13) dmX14_addByte zf14 rOb_0 dX14_packed_62 zw3087 rfl rfl (Nat.le_of_ble_eq_true rfl) (Nat.le_of_ble_eq_true rfl) (Nat.le_of_ble_eq_true rfl) (Nat.le_of_ble_eq_true rfl) (Nat.le_of_ble_eq_true rfl) (kk := fun s62 Ws62 qs62 => ?_)
          have h := h s62 Ws62 (qs62.1.R rfl) (qs62.1.F rfl) qs62.2
          refine y_iinc hC (pc := 65) (v := (y2_3 + 1)) (lv' := [(3, iv (y2_3 + 1)), (0, .ref (κ 0)), (2, iv x2)]) 2 dX14_packed_65 rfl rfl (by decide) rfl ?_
          refine z_goto hC (pc := 68) 2 dX14_packed_68 (by decide) ?_
          refine z_lvs [1, 2, 0] rfl ?_
          obtain ⟨r14, h⟩ := h
          obtain ⟨hI, hm⟩ := h
          exact ih2 s62 (y2_3 + 1) Ws62 r14 (rKeep.tr (rKeep.tr rKeep.rf kJ rfl rfl rfl rfl rfl) qs62.1 rfl rfl rfl rfl rfl) hI (by omega)
        · have h := hF c
          refine y_iinc hC (pc := 18) (v := (y2_3 + 1)) (lv' := [(3, iv (y2_3 + 1)), (0, .ref (κ 0)), (2, iv x2)]) 2 dX14_packed_18 rfl rfl (by decide) rfl ?_
          have j21 : ∀ (d21 : Nat), ∀ (s21 : rS) (y21_3 : Int), rWF s21 → rng y21_3 → rKeep 0x10000000 0 0xc000000 0 0 σ s21 → inv_X14_packed_f_21 σ x1 x2 (mu_X14_packed_f_2 σ x1 x2 s2 y2_3) s21 y21_3 → (mu_X14_packed_f_21 σ x1 x2 s21 y21_3) ≤ d21 → zS X G 4 (rW G κ s21) [(0, .ref (κ 0)), (2, iv x2), (3, iv y21_3)] 0 0 21 [] := by
            intro d21
            induction d21 with
            | zero =>
              intro s21 y21_3 Ws21 hy21_3 kJ hI hmu
              exact absurd hmu (by have := h_21m (mu_X14_packed_f_2 σ x1 x2 s2 y2_3) s21 y21_3 Ws21 hy21_3 (kJ.R rfl) (kJ.F rfl) hI; omega)
            | succ d21 ih21 =>
              intro s21 y21_3 Ws21 hy21_3 kJ hI hmu21
              have h := h_21 (mu_X14_packed_f_2 σ x1 x2 s2 y2_3) s21 y21_3 Ws21 hy21_3 (kJ.R rfl) (kJ.F rfl) hI
              refine z_iload_n hC (pc := 21) 2 dX14_packed_21 rfl rfl ?_
              refine z_iload_n hC (pc := 22) 1 dX14_packed_22 rfl rfl ?_
              obtain ⟨hT, hF⟩ := h
              refine y_icmp_ge hC (pc := 23) 2 hy21_3 hx2 dX14_packed_23 (by decide) (fun c => ?_) (fun c => ?_)
              · have h := hT c
                obtain ⟨hI, hm⟩ := h
                exact ih2 s21 y21_3 Ws21 hy21_3 (rKeep.tr rKeep.rf kJ rfl rfl rfl rfl rfl) hI (by omega)
              · have h := hF c
                refine z_aload_n hC (pc := 26) 0 dX14_packed_26 rfl rfl ?_
                obtain ⟨g15, h⟩ := h
                refine y_get hC (pc := 27) zf14 rOb_0 15 (v := .ref (κ (rR s21 15))) dX14_packed_27 zw2482 (rv_b rfl rfl g15) (kk := ?_)
                refine z_iload_n hC (pc := 30) 2 dX14_packed_30 rfl rfl ?_
                obtain ⟨b16, h⟩ := h
                refine y_bald hC (pc := 31) (rAr_f g15) dX14_packed_31 b16 (v := (rA s21 (rR s21 15) y21_3)) rfl (kk := ?_)
                have h := h (Ws21.a _ _)
                refine z_bipush hC (pc := 32) (v := Int32.ofInt 32) dX14_packed_32 (by decide) ?_
                obtain ⟨hT, hF⟩ := h
                refine y_icmp_eq hC (pc := 34) 48 (Ws21.a _ _) (r_lit rfl) dX14_packed_34 (by decide) (fun c => ?_) (fun c => ?_)
                · have h := hT c
                  refine y_iinc hC (pc := 48) (v := (y21_3 + 1)) (lv' := [(3, iv (y21_3 + 1)), (0, .ref (κ 0)), (2, iv x2)]) 2 dX14_packed_48 rfl rfl (by decide) rfl ?_
                  refine z_goto hC (pc := 51) 21 dX14_packed_51 (by decide) ?_
                  refine z_lvs [1, 2, 0] rfl ?_
                  obtain ⟨r17, h⟩ := h
                  obtain ⟨hI, hm⟩ := h
                  exact ih21 s21 (y21_3 + 1) Ws21 r17 (rKeep.tr rKeep.rf kJ rfl rfl rfl rfl rfl) hI (by omega)
                · have h := hF c
                  refine z_aload_n hC (pc := 37) 0 dX14_packed_37 rfl rfl ?_
                  refine y_get hC (pc := 38) zf14 rOb_0 15 (v := .ref (κ (rR s21 15))) dX14_packed_38 zw2482 (rv_b rfl rfl g15) (kk := ?_)
                  refine z_iload_n hC (pc := 41) 2 dX14_packed_41 rfl rfl ?_
                  obtain ⟨b18, h⟩ := h
                  refine y_bald hC (pc := 42) (rAr_f g15) dX14_packed_42 b18 (v := (rA s21 (rR s21 15) y21_3)) rfl (kk := ?_)
                  refine z_bipush hC (pc := 43) (v := Int32.ofInt 9) dX14_packed_43 (by decide) ?_
                  obtain ⟨hT, hF⟩ := h
                  refine y_icmp_ne hC (pc := 45) 2 (Ws21.a _ _) (r_lit rfl) dX14_packed_45 (by decide) (fun c => ?_) (fun c => ?_)
                  · have h := hT c
                    obtain ⟨hI, hm⟩ := h
                    exact ih2 s21 y21_3 Ws21 hy21_3 (rKeep.tr rKeep.rf kJ rfl rfl rfl rfl rfl) hI (by omega)
                  · have h := hF c
                    refine y_iinc hC (pc := 48) (v := (y21_3 + 1)) (lv' := [(3, iv (y21_3 + 1)), (0, .ref (κ 0)), (2, iv x2)]) 2 dX14_packed_48 rfl rfl (by decide) rfl ?_
                    refine z_goto hC (pc := 51) 21 dX14_packed_51 (by decide) ?_
                    refine z_lvs [1, 2, 0] rfl ?_
                    obtain ⟨r19, h⟩ := h
                    obtain ⟨hI, hm⟩ := h
                    exact ih21 s21 (y21_3 + 1) Ws21 r19 (rKeep.tr rKeep.rf kJ rfl rfl rfl rfl rfl) hI (by omega)
          refine z_lvs [1, 2, 0] rfl ?_
          obtain ⟨r20, h⟩ := h
          exact j21 _ s2 (y2_3 + 1) Ws2 r20 (rKeep.tr rKeep.rf kJ rfl rfl rfl rfl rfl) h (Nat.le_refl _)
  refine z_lvs [1, 3, 0] rfl ?_
  exact j2 _ σ x1 hwf hx1 rKeep.rf h (Nat.le_refl _)
theorem kX14_packed_f (l : Launch) (G : zG) (κ : Nat → Nat) (σ : rS) (x1 : Int) (x2 : Int) (hwf : rWF σ) (hx1 : rng x1) (hx2 : rng x2) (hp : pre_X14_packed_f σ x1 x2) : rMv l G κ yX14_packed cX14_packed 4 2 22 [.ref (κ 0), iv x1, iv x2] σ (fun s => rKeep 0x10000000 0 0xc000000 0 0 σ s ∧ post_X14_packed_f σ x1 x2 s) := wX14_packed_f l G κ σ x1 x2 hwf hx1 hx2 (post_X14_packed_f σ x1 x2) (vX14_packed_f σ x1 x2 hwf hx1 hx2 hp) (vX14_packed_f_21 σ x1 x2 hwf hx1 hx2 hp) (vX14_packed_f_21m σ x1 x2 hwf hx1 hx2 hp) (vX14_packed_f_2 σ x1 x2 hwf hx1 hx2 hp) (vX14_packed_f_2m σ x1 x2 hwf hx1 hx2 hp)
def pre_X14_fileString_f (σ : rS)  : Prop := 0 ≤ (rF σ 0 17) ∧ 0 ≤ (rF σ 0 16) ∧ (rF σ 0 16) ≤ 4000 ∧ rfk (rR σ 15) ∧ (rF σ 0 17) ≤ (rF σ 0 16)
def post_X14_fileString_f (σ : rS)  (σ' : rS) : Prop := (rF σ 0 17) ≤ (rF σ' 0 17) ∧ (rF σ' 0 17) ≤ (rF σ 0 16) ∧ fz σ ≤ fz σ' ∧ (fz σ' = 1 ∨ ((rF σ 0 17) ≤ (rF σ' 0 21) ∧ (rF σ' 0 21) < (rF σ' 0 22) ∧ (rF σ' 0 22) ≤ (rF σ' 0 23) ∧ (rF σ' 0 23) < (rF σ' 0 17) ∧ (rF σ' 0 23) < (rF σ 0 16)))
def inv_X14_fileString_f_50 (σ : rS)   (s : rS) (k : Int) : Prop := fz s = 0 ∧ fz σ = 0 ∧ (rF σ 0 17) ≤ (rF s 0 17) ∧ (rF s 0 17) < k ∧ k ≤ (rF σ 0 16) ∧ (rF s 0 21) = (rF s 0 17)
def mu_X14_fileString_f_50 (σ : rS)  (s : rS) (k : Int) : Nat := (1 + ((rF σ 0 16) - k).toNat)
def VC_X14_fileString_f (σ : rS) (Q : rS → Prop) : Prop := pre_X14_skip σ ∧ (∀ (s1 : rS), rWF s1 → rR s1 15 = rR σ 15 → rF s1 0 16 = rF σ 0 16 → rF s1 0 21 = rF σ 0 21 → rF s1 0 22 = rF σ 0 22 → rF s1 0 23 = rF σ 0 23 → post_X14_skip σ s1 → (rng (rF s1 0 10) → (((rF s1 0 10) = 0 → (rng (rF s1 0 17) → pre_X14_fc s1 (rF s1 0 17) ∧ (∀ (v17 : Int), rng v17 → post_X14_fc s1 (rF s1 0 17) v17 → ((v17 = 34 → rng ((rF s1 0 17) + 1) ∧ (inv_X14_fileString_f_50 σ (sF s1 0 21 (rF s1 0 17)) ((rF s1 0 17) + 1))) ∧ (¬ v17 = 34 → pre_X14_bad s1 1 (rF s1 0 17) ∧ (∀ (s31 : rS), rWF s31 → rR s31 15 = rR s1 15 → rF s31 0 16 = rF s1 0 16 → rF s31 0 17 = rF s1 0 17 → rF s31 0 21 = rF s1 0 21 → rF s31 0 22 = rF s1 0 22 → rF s31 0 23 = rF s1 0 23 → post_X14_bad s1 1 (rF s1 0 17) s31 → Q s31)))))) ∧ (¬ (rF s1 0 10) = 0 → Q s1))))
def VC_X14_fileString_f_50 (σ : rS) (Q : rS → Prop) : Prop := ∀ (s50 : rS) (y50_1 : Int), rWF s50 → rng y50_1 → rR s50 15 = rR σ 15 → rF s50 0 16 = rF σ 0 16 → inv_X14_fileString_f_50 σ s50 y50_1 → ((rng (rF s50 0 16) → (((rF s50 0 16) ≤ y50_1 → (((rF s50 0 16) ≤ y50_1 → pre_X14_bad s50 1 y50_1 ∧ (∀ (s108 : rS), rWF s108 → rR s108 15 = rR s50 15 → rF s108 0 16 = rF s50 0 16 → rF s108 0 17 = rF s50 0 17 → rF s108 0 21 = rF s50 0 21 → rF s108 0 22 = rF s50 0 22 → rF s108 0 23 = rF s50 0 23 → post_X14_bad s50 1 y50_1 s108 → Q s108)) ∧ (¬ (rF s50 0 16) ≤ y50_1 → rfk (rR s50 15) ∧ (0 ≤ y50_1 ∧ y50_1 < 4000) ∧ (rng (rA s50 (rR s50 15) y50_1) → ((¬ (rA s50 (rR s50 15) y50_1) = 10 → (rng (rF s50 0 17) → rng ((rF s50 0 17) + 1) ∧ rng (y50_1 + 1) ∧ Q (sF (sF (sF s50 0 22 ((rF s50 0 17) + 1)) 0 23 y50_1) 0 17 (y50_1 + 1)))) ∧ ((rA s50 (rR s50 15) y50_1) = 10 → pre_X14_bad s50 1 y50_1 ∧ (∀ (s108 : rS), rWF s108 → rR s108 15 = rR s50 15 → rF s108 0 16 = rF s50 0 16 → rF s108 0 17 = rF s50 0 17 → rF s108 0 21 = rF s50 0 21 → rF s108 0 22 = rF s50 0 22 → rF s108 0 23 = rF s50 0 23 → post_X14_bad s50 1 y50_1 s108 → Q s108))))))) ∧ (¬ (rF s50 0 16) ≤ y50_1 → rfk (rR s50 15) ∧ (0 ≤ y50_1 ∧ y50_1 < 4000) ∧ (rng (rA s50 (rR s50 15) y50_1) → (((rA s50 (rR s50 15) y50_1) = 34 → (((rF s50 0 16) ≤ y50_1 → pre_X14_bad s50 1 y50_1 ∧ (∀ (s108 : rS), rWF s108 → rR s108 15 = rR s50 15 → rF s108 0 16 = rF s50 0 16 → rF s108 0 17 = rF s50 0 17 → rF s108 0 21 = rF s50 0 21 → rF s108 0 22 = rF s50 0 22 → rF s108 0 23 = rF s50 0 23 → post_X14_bad s50 1 y50_1 s108 → Q s108)) ∧ (¬ (rF s50 0 16) ≤ y50_1 → (0 ≤ y50_1 ∧ y50_1 < 4000) ∧ ((¬ (rA s50 (rR s50 15) y50_1) = 10 → (rng (rF s50 0 17) → rng ((rF s50 0 17) + 1) ∧ rng (y50_1 + 1) ∧ Q (sF (sF (sF s50 0 22 ((rF s50 0 17) + 1)) 0 23 y50_1) 0 17 (y50_1 + 1)))) ∧ ((rA s50 (rR s50 15) y50_1) = 10 → pre_X14_bad s50 1 y50_1 ∧ (∀ (s108 : rS), rWF s108 → rR s108 15 = rR s50 15 → rF s108 0 16 = rF s50 0 16 → rF s108 0 17 = rF s50 0 17 → rF s108 0 21 = rF s50 0 21 → rF s108 0 22 = rF s50 0 22 → rF s108 0 23 = rF s50 0 23 → post_X14_bad s50 1 y50_1 s108 → Q s108)))))) ∧ (¬ (rA s50 (rR s50 15) y50_1) = 34 → (0 ≤ y50_1 ∧ y50_1 < 4000) ∧ (((rA s50 (rR s50 15) y50_1) = 10 → (((rF s50 0 16) ≤ y50_1 → pre_X14_bad s50 1 y50_1 ∧ (∀ (s108 : rS), rWF s108 → rR s108 15 = rR s50 15 → rF s108 0 16 = rF s50 0 16 → rF s108 0 17 = rF s50 0 17 → rF s108 0 21 = rF s50 0 21 → rF s108 0 22 = rF s50 0 22 → rF s108 0 23 = rF s50 0 23 → post_X14_bad s50 1 y50_1 s108 → Q s108)) ∧ (¬ (rF s50 0 16) ≤ y50_1 → (0 ≤ y50_1 ∧ y50_1 < 4000) ∧ ((¬ (rA s50 (rR s50 15) y50_1) = 10 → (rng (rF s50 0 17) → rng ((rF s50 0 17) + 1) ∧ rng (y50_1 + 1) ∧ Q (sF (sF (sF s50 0 22 ((rF s50 0 17) + 1)) 0 23 y50_1) 0 17 (y50_1 + 1)))) ∧ ((rA s50 (rR s50 15) y50_1) = 10 → pre_X14_bad s50 1 y50_1 ∧ (∀ (s108 : rS), rWF s108 → rR s108 15 = rR s50 15 → rF s108 0 16 = rF s50 0 16 → rF s108 0 17 = rF s50 0 17 → rF s108 0 21 = rF s50 0 21 → rF s108 0 22 = rF s50 0 22 → rF s108 0 23 = rF s50 0 23 → post_X14_bad s50 1 y50_1 s108 → Q s108)))))) ∧ (¬ (rA s50 (rR s50 15) y50_1) = 10 → rng (y50_1 + 1) ∧ (inv_X14_fileString_f_50 σ s50 (y50_1 + 1) ∧ (mu_X14_fileString_f_50 σ s50 (y50_1 + 1)) < (mu_X14_fileString_f_50 σ s50 y50_1)))))))))))
def VC_X14_fileString_f_50m (σ : rS) : Prop := ∀ (s50 : rS) (y50_1 : Int), rWF s50 → rng y50_1 → rR s50 15 = rR σ 15 → rF s50 0 16 = rF σ 0 16 → inv_X14_fileString_f_50 σ s50 y50_1 → 0 < (mu_X14_fileString_f_50 σ s50 y50_1)
set_option maxHeartbeats 20000000 in
theorem vX14_fileString_f (σ : rS) (hwf : rWF σ) (hp : pre_X14_fileString_f σ ) : VC_X14_fileString_f σ (post_X14_fileString_f σ ) := by
  unfold pre_X14_fileString_f at hp
  obtain ⟨hp_1, hp_2, hp_3, hp_4, hp_5⟩ := hp
  have zr0 := fz_rng σ
  unfold VC_X14_fileString_f
  refine ⟨(by (try simp only [pre_X14_skip]); (all_goals (repeat' (first | with_reducible intro _ | with_reducible apply And.intro))); all_goals (first | assumption | trivial | ((with_reducible refine Im.i fun hf_ => ?_); first | exact ((fun _ => RG.rf) hf_) | exact ok1.i | (exact LI.z (fun h => absurd h (by decide))) | (exact absurd hf_ (by omega)) | omega) | omega | (have zz_ := fz_z (by assumption); omega) | (split <;> omega) | grind (splits := 20) [Im])), ?_⟩
  intro s1 Ws1 e1_0 e1_1 e1_2 e1_3 e1_4 q1
  have q1 := dig_X14_skip q1
  obtain ⟨q1_1, q1_2, q1_3⟩ := q1
  have zr1 := fz_rng s1
  intro hr_; unfold rng at hr_
  refine ⟨fun c8 => ?_, fun c8 => ?_⟩
  · have z8 := fz_z c8
    intro hr_; unfold rng at hr_
    refine ⟨(by (try simp only [pre_X14_fc]); (all_goals (repeat' (first | with_reducible intro _ | with_reducible apply And.intro))); all_goals (first | assumption | trivial | ((with_reducible refine Im.i fun hf_ => ?_); first | exact ((fun _ => RG.rf) hf_) | exact ok1.i | (exact LI.z (fun h => absurd h (by decide))) | (exact absurd hf_ (by omega)) | omega) | omega | (have zz_ := fz_z (by assumption); omega) | (split <;> omega) | grind (splits := 20) [Im])), ?_⟩
    intro v17 hv17 q17
    unfold rng at hv17
    unfold post_X14_fc at q17
    obtain ⟨q17_1, q17_2⟩ := q17
    refine ⟨fun c22 => ?_, fun c22 => ?_⟩
    · refine ⟨(by (try simp only [rng, reduceIte, and_true, true_and, and_false, false_and, and_self, Nat.reduceEqDiff, fz_sF21, rF_sF, rA_sF, rR_sF, tr_sF, rNMp_sF, PNp_sF, GS_F21, OP_F21, NR_F21, LI_F21, RG_l21, RG_r21, TPRp_sF21, WNp_sF21, VMp_sF21, KYp_sF21, PPp_sF21, WFp_sF21, CCp_sF21]); (all_goals (repeat' (first | with_reducible intro _ | with_reducible apply And.intro))); all_goals (first | assumption | trivial | ((with_reducible refine Im.i fun hf_ => ?_); first | exact ((fun _ => RG.rf) hf_) | exact ok1.i | (exact LI.z (fun h => absurd h (by decide))) | (exact absurd hf_ (by omega)) | omega) | omega | (have zz_ := fz_z (by assumption); omega) | (split <;> omega) | grind (splits := 20) [Im])), ?_⟩
      exact (by (try simp only [inv_X14_fileString_f_50, reduceIte, and_true, true_and, and_false, false_and, and_self, Nat.reduceEqDiff, fz_sF21, rF_sF, rA_sF, rR_sF, tr_sF, rNMp_sF, PNp_sF, GS_F21, OP_F21, NR_F21, LI_F21, RG_l21, RG_r21, TPRp_sF21, WNp_sF21, VMp_sF21, KYp_sF21, PPp_sF21, WFp_sF21, CCp_sF21]); (all_goals (repeat' (first | with_reducible intro _ | with_reducible apply And.intro))); all_goals (first | assumption | trivial | ((with_reducible refine Im.i fun hf_ => ?_); first | exact ((fun _ => RG.rf) hf_) | exact ok1.i | (exact LI.z (fun h => absurd h (by decide))) | (exact absurd hf_ (by omega)) | omega) | omega | (have zz_ := fz_z (by assumption); omega) | (split <;> omega) | grind (splits := 20) [Im]))
    · refine ⟨(by (try simp only [pre_X14_bad]); (all_goals (repeat' (first | with_reducible intro _ | with_reducible apply And.intro))); all_goals (first | assumption | trivial | ((with_reducible refine Im.i fun hf_ => ?_); first | exact ((fun _ => RG.rf) hf_) | exact ok1.i | (exact LI.z (fun h => absurd h (by decide))) | (exact absurd hf_ (by omega)) | omega) | omega | (have zz_ := fz_z (by assumption); omega) | (split <;> omega) | grind (splits := 20) [Im])), ?_⟩
      intro s31 Ws31 e31_0 e31_1 e31_2 e31_3 e31_4 e31_5 q31
      have q31 := dig_bad q31 (by omega)
      obtain ⟨q31_1, q31_2⟩ := q31
      have zr31 := fz_rng s31
      exact (by (try simp only [post_X14_fileString_f]); (all_goals (repeat' (first | with_reducible intro _ | with_reducible apply And.intro))); all_goals (first | assumption | trivial | ((with_reducible refine Im.i fun hf_ => ?_); first | exact ((fun _ => RG.rf) hf_) | exact ok1.i | (exact LI.z (fun h => absurd h (by decide))) | (exact absurd hf_ (by omega)) | omega) | omega | (have zz_ := fz_z (by assumption); omega) | (split <;> omega) | grind (splits := 20) [Im]))
  · have z8 := fz_n c8
    exact (by (try simp only [post_X14_fileString_f]); (all_goals (repeat' (first | with_reducible intro _ | with_reducible apply And.intro))); all_goals (first | assumption | trivial | ((with_reducible refine Im.i fun hf_ => ?_); first | exact ((fun _ => RG.rf) hf_) | exact ok1.i | (exact LI.z (fun h => absurd h (by decide))) | (exact absurd hf_ (by omega)) | omega) | omega | (have zz_ := fz_z (by assumption); omega) | (split <;> omega) | grind (splits := 20) [Im]))
set_option maxHeartbeats 20000000 in
theorem vX14_fileString_f_50 (σ : rS) (hwf : rWF σ) (hp : pre_X14_fileString_f σ ) : VC_X14_fileString_f_50 σ (post_X14_fileString_f σ ) := by
  unfold pre_X14_fileString_f at hp
  obtain ⟨hp_1, hp_2, hp_3, hp_4, hp_5⟩ := hp
  have zr0 := fz_rng σ
  unfold VC_X14_fileString_f_50
  intro s50 y50_1 Ws50 hy50_1 e50_0 e50_1 I50
  unfold inv_X14_fileString_f_50 at I50
  obtain ⟨I50_1, I50_2, I50_3, I50_4, I50_5, I50_6⟩ := I50
  have zr50 := fz_rng s50
  intro hr_; unfold rng at hr_
  refine ⟨fun c55 => ?_, fun c55 => ?_⟩
  · refine ⟨fun c91 => ?_, fun c91 => ?_⟩
    · refine ⟨(by (try simp only [pre_X14_bad]); (all_goals (repeat' (first | with_reducible intro _ | with_reducible apply And.intro))); all_goals (first | assumption | trivial | ((with_reducible refine Im.i fun hf_ => ?_); first | exact ((fun _ => RG.rf) hf_) | exact ok1.i | (exact LI.z (fun h => absurd h (by decide))) | (exact absurd hf_ (by omega)) | omega) | omega | (have zz_ := fz_z (by assumption); omega) | (split <;> omega) | grind (splits := 20) [Im])), ?_⟩
      intro s108 Ws108 e108_0 e108_1 e108_2 e108_3 e108_4 e108_5 q108
      have q108 := dig_bad q108 (by omega)
      obtain ⟨q108_1, q108_2⟩ := q108
      have zr108 := fz_rng s108
      exact (by (try simp only [post_X14_fileString_f]); (all_goals (repeat' (first | with_reducible intro _ | with_reducible apply And.intro))); all_goals (first | assumption | trivial | ((with_reducible refine Im.i fun hf_ => ?_); first | exact ((fun _ => RG.rf) hf_) | exact ok1.i | (exact LI.z (fun h => absurd h (by decide))) | (exact absurd hf_ (by omega)) | omega) | omega | (have zz_ := fz_z (by assumption); omega) | (split <;> omega) | grind (splits := 20) [Im]))
    · refine ⟨(by (all_goals (repeat' (first | with_reducible intro _ | with_reducible apply And.intro))); all_goals (first | assumption | trivial | ((with_reducible refine Im.i fun hf_ => ?_); first | exact ((fun _ => RG.rf) hf_) | exact ok1.i | (exact LI.z (fun h => absurd h (by decide))) | (exact absurd hf_ (by omega)) | omega) | omega | (have zz_ := fz_z (by assumption); omega) | (split <;> omega) | grind (splits := 20) [Im])), ?_⟩
      refine ⟨(by (all_goals (repeat' (first | with_reducible intro _ | with_reducible apply And.intro))); all_goals (first | assumption | trivial | ((with_reducible refine Im.i fun hf_ => ?_); first | exact ((fun _ => RG.rf) hf_) | exact ok1.i | (exact LI.z (fun h => absurd h (by decide))) | (exact absurd hf_ (by omega)) | omega) | omega | (have zz_ := fz_z (by assumption); omega) | (split <;> omega) | grind (splits := 20) [Im])), ?_⟩
      intro hr_; unfold rng at hr_
      refine ⟨fun c102 => ?_, fun c102 => ?_⟩
      · intro hr_; unfold rng at hr_
        refine ⟨(by (try simp only [rng]); (all_goals (repeat' (first | with_reducible intro _ | with_reducible apply And.intro))); all_goals (first | assumption | trivial | ((with_reducible refine Im.i fun hf_ => ?_); first | exact ((fun _ => RG.rf) hf_) | exact ok1.i | (exact LI.z (fun h => absurd h (by decide))) | (exact absurd hf_ (by omega)) | omega) | omega | (have zz_ := fz_z (by assumption); omega) | (split <;> omega) | grind (splits := 20) [Im])), ?_⟩
        refine ⟨(by (try simp only [rng, reduceIte, and_true, true_and, and_false, false_and, and_self, Nat.reduceEqDiff, fz_sF22, rF_sF, rA_sF, rR_sF, tr_sF, rNMp_sF, PNp_sF, GS_F22, OP_F22, NR_F22, LI_F22, RG_l22, RG_r22, TPRp_sF22, WNp_sF22, VMp_sF22, KYp_sF22, PPp_sF22, WFp_sF22, CCp_sF22, fz_sF23, GS_F23, OP_F23, NR_F23, LI_F23, RG_l23, RG_r23, TPRp_sF23, WNp_sF23, VMp_sF23, KYp_sF23, PPp_sF23, WFp_sF23, CCp_sF23]); (all_goals (repeat' (first | with_reducible intro _ | with_reducible apply And.intro))); all_goals (first | assumption | trivial | ((with_reducible refine Im.i fun hf_ => ?_); first | exact ((fun _ => RG.rf) hf_) | exact ok1.i | (exact LI.z (fun h => absurd h (by decide))) | (exact absurd hf_ (by omega)) | omega) | omega | (have zz_ := fz_z (by assumption); omega) | (split <;> omega) | grind (splits := 20) [Im])), ?_⟩
        exact (by (try simp only [post_X14_fileString_f, reduceIte, and_true, true_and, and_false, false_and, and_self, Nat.reduceEqDiff, fz_sF22, rF_sF, rA_sF, rR_sF, tr_sF, rNMp_sF, PNp_sF, GS_F22, OP_F22, NR_F22, LI_F22, RG_l22, RG_r22, TPRp_sF22, WNp_sF22, VMp_sF22, KYp_sF22, PPp_sF22, WFp_sF22, CCp_sF22, fz_sF23, GS_F23, OP_F23, NR_F23, LI_F23, RG_l23, RG_r23, TPRp_sF23, WNp_sF23, VMp_sF23, KYp_sF23, PPp_sF23, WFp_sF23, CCp_sF23, fz_sF17, GS_F17, OP_F17, NR_F17, LI_F17, RG_l17, RG_r17, TPRp_sF17, WNp_sF17, VMp_sF17, KYp_sF17, PPp_sF17, WFp_sF17, CCp_sF17]); (all_goals (repeat' (first | with_reducible intro _ | with_reducible apply And.intro))); all_goals (first | assumption | trivial | ((with_reducible refine Im.i fun hf_ => ?_); first | exact ((fun _ => RG.rf) hf_) | exact ok1.i | (exact LI.z (fun h => absurd h (by decide))) | (exact absurd hf_ (by omega)) | omega) | omega | (have zz_ := fz_z (by assumption); omega) | (split <;> omega) | grind (splits := 20) [Im]))
      · refine ⟨(by (try simp only [pre_X14_bad]); (all_goals (repeat' (first | with_reducible intro _ | with_reducible apply And.intro))); all_goals (first | assumption | trivial | ((with_reducible refine Im.i fun hf_ => ?_); first | exact ((fun _ => RG.rf) hf_) | exact ok1.i | (exact LI.z (fun h => absurd h (by decide))) | (exact absurd hf_ (by omega)) | omega) | omega | (have zz_ := fz_z (by assumption); omega) | (split <;> omega) | grind (splits := 20) [Im])), ?_⟩
        intro s108 Ws108 e108_0 e108_1 e108_2 e108_3 e108_4 e108_5 q108
        have q108 := dig_bad q108 (by omega)
        obtain ⟨q108_1, q108_2⟩ := q108
        have zr108 := fz_rng s108
        exact (by (try simp only [post_X14_fileString_f]); (all_goals (repeat' (first | with_reducible intro _ | with_reducible apply And.intro))); all_goals (first | assumption | trivial | ((with_reducible refine Im.i fun hf_ => ?_); first | exact ((fun _ => RG.rf) hf_) | exact ok1.i | (exact LI.z (fun h => absurd h (by decide))) | (exact absurd hf_ (by omega)) | omega) | omega | (have zz_ := fz_z (by assumption); omega) | (split <;> omega) | grind (splits := 20) [Im]))
  · refine ⟨(by (all_goals (repeat' (first | with_reducible intro _ | with_reducible apply And.intro))); all_goals (first | assumption | trivial | ((with_reducible refine Im.i fun hf_ => ?_); first | exact ((fun _ => RG.rf) hf_) | exact ok1.i | (exact LI.z (fun h => absurd h (by decide))) | (exact absurd hf_ (by omega)) | omega) | omega | (have zz_ := fz_z (by assumption); omega) | (split <;> omega) | grind (splits := 20) [Im])), ?_⟩
    refine ⟨(by (all_goals (repeat' (first | with_reducible intro _ | with_reducible apply And.intro))); all_goals (first | assumption | trivial | ((with_reducible refine Im.i fun hf_ => ?_); first | exact ((fun _ => RG.rf) hf_) | exact ok1.i | (exact LI.z (fun h => absurd h (by decide))) | (exact absurd hf_ (by omega)) | omega) | omega | (have zz_ := fz_z (by assumption); omega) | (split <;> omega) | grind (splits := 20) [Im])), ?_⟩
    intro hr_; unfold rng at hr_
    refine ⟨fun c66 => ?_, fun c66 => ?_⟩
    · refine ⟨fun c91 => ?_, fun c91 => ?_⟩
      · refine ⟨(by (try simp only [pre_X14_bad]); (all_goals (repeat' (first | with_reducible intro _ | with_reducible apply And.intro))); all_goals (first | assumption | trivial | ((with_reducible refine Im.i fun hf_ => ?_); first | exact ((fun _ => RG.rf) hf_) | exact ok1.i | (exact LI.z (fun h => absurd h (by decide))) | (exact absurd hf_ (by omega)) | omega) | omega | (have zz_ := fz_z (by assumption); omega) | (split <;> omega) | grind (splits := 20) [Im])), ?_⟩
        intro s108 Ws108 e108_0 e108_1 e108_2 e108_3 e108_4 e108_5 q108
        have q108 := dig_bad q108 (by omega)
        obtain ⟨q108_1, q108_2⟩ := q108
        have zr108 := fz_rng s108
        exact (by (try simp only [post_X14_fileString_f]); (all_goals (repeat' (first | with_reducible intro _ | with_reducible apply And.intro))); all_goals (first | assumption | trivial | ((with_reducible refine Im.i fun hf_ => ?_); first | exact ((fun _ => RG.rf) hf_) | exact ok1.i | (exact LI.z (fun h => absurd h (by decide))) | (exact absurd hf_ (by omega)) | omega) | omega | (have zz_ := fz_z (by assumption); omega) | (split <;> omega) | grind (splits := 20) [Im]))
      · refine ⟨(by (all_goals (repeat' (first | with_reducible intro _ | with_reducible apply And.intro))); all_goals (first | assumption | trivial | ((with_reducible refine Im.i fun hf_ => ?_); first | exact ((fun _ => RG.rf) hf_) | exact ok1.i | (exact LI.z (fun h => absurd h (by decide))) | (exact absurd hf_ (by omega)) | omega) | omega | (have zz_ := fz_z (by assumption); omega) | (split <;> omega) | grind (splits := 20) [Im])), ?_⟩
        refine ⟨fun c102 => ?_, fun c102 => ?_⟩
        · intro hr_; unfold rng at hr_
          refine ⟨(by (try simp only [rng]); (all_goals (repeat' (first | with_reducible intro _ | with_reducible apply And.intro))); all_goals (first | assumption | trivial | ((with_reducible refine Im.i fun hf_ => ?_); first | exact ((fun _ => RG.rf) hf_) | exact ok1.i | (exact LI.z (fun h => absurd h (by decide))) | (exact absurd hf_ (by omega)) | omega) | omega | (have zz_ := fz_z (by assumption); omega) | (split <;> omega) | grind (splits := 20) [Im])), ?_⟩
          refine ⟨(by (try simp only [rng, reduceIte, and_true, true_and, and_false, false_and, and_self, Nat.reduceEqDiff, fz_sF22, rF_sF, rA_sF, rR_sF, tr_sF, rNMp_sF, PNp_sF, GS_F22, OP_F22, NR_F22, LI_F22, RG_l22, RG_r22, TPRp_sF22, WNp_sF22, VMp_sF22, KYp_sF22, PPp_sF22, WFp_sF22, CCp_sF22, fz_sF23, GS_F23, OP_F23, NR_F23, LI_F23, RG_l23, RG_r23, TPRp_sF23, WNp_sF23, VMp_sF23, KYp_sF23, PPp_sF23, WFp_sF23, CCp_sF23]); (all_goals (repeat' (first | with_reducible intro _ | with_reducible apply And.intro))); all_goals (first | assumption | trivial | ((with_reducible refine Im.i fun hf_ => ?_); first | exact ((fun _ => RG.rf) hf_) | exact ok1.i | (exact LI.z (fun h => absurd h (by decide))) | (exact absurd hf_ (by omega)) | omega) | omega | (have zz_ := fz_z (by assumption); omega) | (split <;> omega) | grind (splits := 20) [Im])), ?_⟩
          exact (by (try simp only [post_X14_fileString_f, reduceIte, and_true, true_and, and_false, false_and, and_self, Nat.reduceEqDiff, fz_sF22, rF_sF, rA_sF, rR_sF, tr_sF, rNMp_sF, PNp_sF, GS_F22, OP_F22, NR_F22, LI_F22, RG_l22, RG_r22, TPRp_sF22, WNp_sF22, VMp_sF22, KYp_sF22, PPp_sF22, WFp_sF22, CCp_sF22, fz_sF23, GS_F23, OP_F23, NR_F23, LI_F23, RG_l23, RG_r23, TPRp_sF23, WNp_sF23, VMp_sF23, KYp_sF23, PPp_sF23, WFp_sF23, CCp_sF23, fz_sF17, GS_F17, OP_F17, NR_F17, LI_F17, RG_l17, RG_r17, TPRp_sF17, WNp_sF17, VMp_sF17, KYp_sF17, PPp_sF17, WFp_sF17, CCp_sF17]); (all_goals (repeat' (first | with_reducible intro _ | with_reducible apply And.intro))); all_goals (first | assumption | trivial | ((with_reducible refine Im.i fun hf_ => ?_); first | exact ((fun _ => RG.rf) hf_) | exact ok1.i | (exact LI.z (fun h => absurd h (by decide))) | (exact absurd hf_ (by omega)) | omega) | omega | (have zz_ := fz_z (by assumption); omega) | (split <;> omega) | grind (splits := 20) [Im]))
        · refine ⟨(by (try simp only [pre_X14_bad]); (all_goals (repeat' (first | with_reducible intro _ | with_reducible apply And.intro))); all_goals (first | assumption | trivial | ((with_reducible refine Im.i fun hf_ => ?_); first | exact ((fun _ => RG.rf) hf_) | exact ok1.i | (exact LI.z (fun h => absurd h (by decide))) | (exact absurd hf_ (by omega)) | omega) | omega | (have zz_ := fz_z (by assumption); omega) | (split <;> omega) | grind (splits := 20) [Im])), ?_⟩
          intro s108 Ws108 e108_0 e108_1 e108_2 e108_3 e108_4 e108_5 q108
          have q108 := dig_bad q108 (by omega)
          obtain ⟨q108_1, q108_2⟩ := q108
          have zr108 := fz_rng s108
          exact (by (try simp only [post_X14_fileString_f]); (all_goals (repeat' (first | with_reducible intro _ | with_reducible apply And.intro))); all_goals (first | assumption | trivial | ((with_reducible refine Im.i fun hf_ => ?_); first | exact ((fun _ => RG.rf) hf_) | exact ok1.i | (exact LI.z (fun h => absurd h (by decide))) | (exact absurd hf_ (by omega)) | omega) | omega | (have zz_ := fz_z (by assumption); omega) | (split <;> omega) | grind (splits := 20) [Im]))
    · refine ⟨(by (all_goals (repeat' (first | with_reducible intro _ | with_reducible apply And.intro))); all_goals (first | assumption | trivial | ((with_reducible refine Im.i fun hf_ => ?_); first | exact ((fun _ => RG.rf) hf_) | exact ok1.i | (exact LI.z (fun h => absurd h (by decide))) | (exact absurd hf_ (by omega)) | omega) | omega | (have zz_ := fz_z (by assumption); omega) | (split <;> omega) | grind (splits := 20) [Im])), ?_⟩
      refine ⟨fun c77 => ?_, fun c77 => ?_⟩
      · refine ⟨fun c91 => ?_, fun c91 => ?_⟩
        · refine ⟨(by (try simp only [pre_X14_bad]); (all_goals (repeat' (first | with_reducible intro _ | with_reducible apply And.intro))); all_goals (first | assumption | trivial | ((with_reducible refine Im.i fun hf_ => ?_); first | exact ((fun _ => RG.rf) hf_) | exact ok1.i | (exact LI.z (fun h => absurd h (by decide))) | (exact absurd hf_ (by omega)) | omega) | omega | (have zz_ := fz_z (by assumption); omega) | (split <;> omega) | grind (splits := 20) [Im])), ?_⟩
          intro s108 Ws108 e108_0 e108_1 e108_2 e108_3 e108_4 e108_5 q108
          have q108 := dig_bad q108 (by omega)
          obtain ⟨q108_1, q108_2⟩ := q108
          have zr108 := fz_rng s108
          exact (by (try simp only [post_X14_fileString_f]); (all_goals (repeat' (first | with_reducible intro _ | with_reducible apply And.intro))); all_goals (first | assumption | trivial | ((with_reducible refine Im.i fun hf_ => ?_); first | exact ((fun _ => RG.rf) hf_) | exact ok1.i | (exact LI.z (fun h => absurd h (by decide))) | (exact absurd hf_ (by omega)) | omega) | omega | (have zz_ := fz_z (by assumption); omega) | (split <;> omega) | grind (splits := 20) [Im]))
        · refine ⟨(by (all_goals (repeat' (first | with_reducible intro _ | with_reducible apply And.intro))); all_goals (first | assumption | trivial | ((with_reducible refine Im.i fun hf_ => ?_); first | exact ((fun _ => RG.rf) hf_) | exact ok1.i | (exact LI.z (fun h => absurd h (by decide))) | (exact absurd hf_ (by omega)) | omega) | omega | (have zz_ := fz_z (by assumption); omega) | (split <;> omega) | grind (splits := 20) [Im])), ?_⟩
          refine ⟨fun c102 => ?_, fun c102 => ?_⟩
          · intro hr_; unfold rng at hr_
            refine ⟨(by (try simp only [rng]); (all_goals (repeat' (first | with_reducible intro _ | with_reducible apply And.intro))); all_goals (first | assumption | trivial | ((with_reducible refine Im.i fun hf_ => ?_); first | exact ((fun _ => RG.rf) hf_) | exact ok1.i | (exact LI.z (fun h => absurd h (by decide))) | (exact absurd hf_ (by omega)) | omega) | omega | (have zz_ := fz_z (by assumption); omega) | (split <;> omega) | grind (splits := 20) [Im])), ?_⟩
            refine ⟨(by (try simp only [rng, reduceIte, and_true, true_and, and_false, false_and, and_self, Nat.reduceEqDiff, fz_sF22, rF_sF, rA_sF, rR_sF, tr_sF, rNMp_sF, PNp_sF, GS_F22, OP_F22, NR_F22, LI_F22, RG_l22, RG_r22, TPRp_sF22, WNp_sF22, VMp_sF22, KYp_sF22, PPp_sF22, WFp_sF22, CCp_sF22, fz_sF23, GS_F23, OP_F23, NR_F23, LI_F23, RG_l23, RG_r23, TPRp_sF23, WNp_sF23, VMp_sF23, KYp_sF23, PPp_sF23, WFp_sF23, CCp_sF23]); (all_goals (repeat' (first | with_reducible intro _ | with_reducible apply And.intro))); all_goals (first | assumption | trivial | ((with_reducible refine Im.i fun hf_ => ?_); first | exact ((fun _ => RG.rf) hf_) | exact ok1.i | (exact LI.z (fun h => absurd h (by decide))) | (exact absurd hf_ (by omega)) | omega) | omega | (have zz_ := fz_z (by assumption); omega) | (split <;> omega) | grind (splits := 20) [Im])), ?_⟩
            exact (by (try simp only [post_X14_fileString_f, reduceIte, and_true, true_and, and_false, false_and, and_self, Nat.reduceEqDiff, fz_sF22, rF_sF, rA_sF, rR_sF, tr_sF, rNMp_sF, PNp_sF, GS_F22, OP_F22, NR_F22, LI_F22, RG_l22, RG_r22, TPRp_sF22, WNp_sF22, VMp_sF22, KYp_sF22, PPp_sF22, WFp_sF22, CCp_sF22, fz_sF23, GS_F23, OP_F23, NR_F23, LI_F23, RG_l23, RG_r23, TPRp_sF23, WNp_sF23, VMp_sF23, KYp_sF23, PPp_sF23, WFp_sF23, CCp_sF23, fz_sF17, GS_F17, OP_F17, NR_F17, LI_F17, RG_l17, RG_r17, TPRp_sF17, WNp_sF17, VMp_sF17, KYp_sF17, PPp_sF17, WFp_sF17, CCp_sF17]); (all_goals (repeat' (first | with_reducible intro _ | with_reducible apply And.intro))); all_goals (first | assumption | trivial | ((with_reducible refine Im.i fun hf_ => ?_); first | exact ((fun _ => RG.rf) hf_) | exact ok1.i | (exact LI.z (fun h => absurd h (by decide))) | (exact absurd hf_ (by omega)) | omega) | omega | (have zz_ := fz_z (by assumption); omega) | (split <;> omega) | grind (splits := 20) [Im]))
          · refine ⟨(by (try simp only [pre_X14_bad]); (all_goals (repeat' (first | with_reducible intro _ | with_reducible apply And.intro))); all_goals (first | assumption | trivial | ((with_reducible refine Im.i fun hf_ => ?_); first | exact ((fun _ => RG.rf) hf_) | exact ok1.i | (exact LI.z (fun h => absurd h (by decide))) | (exact absurd hf_ (by omega)) | omega) | omega | (have zz_ := fz_z (by assumption); omega) | (split <;> omega) | grind (splits := 20) [Im])), ?_⟩
            intro s108 Ws108 e108_0 e108_1 e108_2 e108_3 e108_4 e108_5 q108
            have q108 := dig_bad q108 (by omega)
            obtain ⟨q108_1, q108_2⟩ := q108
            have zr108 := fz_rng s108
            exact (by (try simp only [post_X14_fileString_f]); (all_goals (repeat' (first | with_reducible intro _ | with_reducible apply And.intro))); all_goals (first | assumption | trivial | ((with_reducible refine Im.i fun hf_ => ?_); first | exact ((fun _ => RG.rf) hf_) | exact ok1.i | (exact LI.z (fun h => absurd h (by decide))) | (exact absurd hf_ (by omega)) | omega) | omega | (have zz_ := fz_z (by assumption); omega) | (split <;> omega) | grind (splits := 20) [Im]))
      · refine ⟨(by (try simp only [rng]); (all_goals (repeat' (first | with_reducible intro _ | with_reducible apply And.intro))); all_goals (first | assumption | trivial | ((with_reducible refine Im.i fun hf_ => ?_); first | exact ((fun _ => RG.rf) hf_) | exact ok1.i | (exact LI.z (fun h => absurd h (by decide))) | (exact absurd hf_ (by omega)) | omega) | omega | (have zz_ := fz_z (by assumption); omega) | (split <;> omega) | grind (splits := 20) [Im])), ?_⟩
        exact (by (try simp only [inv_X14_fileString_f_50, mu_X14_fileString_f_50, mu_X14_fileString_f_50]); (all_goals (repeat' (first | with_reducible intro _ | with_reducible apply And.intro))); all_goals (first | assumption | trivial | ((with_reducible refine Im.i fun hf_ => ?_); first | exact ((fun _ => RG.rf) hf_) | exact ok1.i | (exact LI.z (fun h => absurd h (by decide))) | (exact absurd hf_ (by omega)) | omega) | omega | (have zz_ := fz_z (by assumption); omega) | (split <;> omega) | grind (splits := 20) [Im]))
set_option maxHeartbeats 20000000 in
theorem vX14_fileString_f_50m (σ : rS) (hwf : rWF σ) (hp : pre_X14_fileString_f σ ) : VC_X14_fileString_f_50m σ := by
  unfold pre_X14_fileString_f at hp
  obtain ⟨hp_1, hp_2, hp_3, hp_4, hp_5⟩ := hp
  have zr0 := fz_rng σ
  unfold VC_X14_fileString_f_50m
  (try simp only [inv_X14_fileString_f_50, mu_X14_fileString_f_50]); (all_goals (repeat' (first | with_reducible intro _ | with_reducible apply And.intro))); all_goals (first | assumption | omega | grind (splits := 20))
theorem wX14_fileString_f (l : Launch) (G : zG) (κ : Nat → Nat) (σ : rS) (hwf : rWF σ) (Q : rS → Prop) (h : VC_X14_fileString_f σ Q) (h_50 : VC_X14_fileString_f_50 σ Q) (h_50m : VC_X14_fileString_f_50m σ ) : rMv l G κ yX14_fileString cX14_fileString 2 4 65 [.ref (κ 0)] σ (fun s => rKeep 0xe21c00 0 0 0 0 σ s ∧ Q s) := by
  refine zMv.intro (by decide +kernel) (Nat.le_of_ble_eq_true rfl) (fun X hC hR => ?_)
  refine z_aload_n hC (pc := 0) 0 dX14_fileString_0 rfl rfl ?_
  obtain ⟨p10, h⟩ := h
  refine y_callVv hC (pc := 1) (As := []) (kX14_skip l G κ σ  hwf  p10) dmX14_skip zf14 rOb_0 dX14_fileString_1 zw2985 rfl rfl (Nat.le_of_ble_eq_true rfl) (Nat.le_of_ble_eq_true rfl) (Nat.le_of_ble_eq_true rfl) (Nat.le_of_ble_eq_true rfl) (Nat.le_of_ble_eq_true rfl) (kk := fun s1 Ws1 qs1 => ?_)
  have h := h s1 Ws1 (qs1.1.R rfl) (qs1.1.F rfl) (qs1.1.F rfl) (qs1.1.F rfl) (qs1.1.F rfl) qs1.2
  refine z_aload_n hC (pc := 4) 0 dX14_fileString_4 rfl rfl ?_
  refine y_get hC (pc := 5) zf14 rOb_0 10 (v := iv (rF s1 0 10)) dX14_fileString_5 zw2478 (rv_i (Or.inl rfl) rfl) (kk := ?_)
  have h := h (Ws1.f _ _)
  obtain ⟨hT, hF⟩ := h
  refine y_if_eq hC (pc := 8) 12 (Ws1.f _ _) dX14_fileString_8 (by decide) (fun c => ?_) (fun c => ?_)
  · have h := hT c
    refine z_aload_n hC (pc := 12) 0 dX14_fileString_12 rfl rfl ?_
    refine z_aload_n hC (pc := 13) 0 dX14_fileString_13 rfl rfl ?_
    refine y_get hC (pc := 14) zf14 rOb_0 17 (v := iv (rF s1 0 17)) dX14_fileString_14 zw2484 (rv_i (Or.inl rfl) rfl) (kk := ?_)
    have h := h (Ws1.f _ _)
    obtain ⟨p11, h⟩ := h
    refine y_callVi hC (pc := 17) (As := [iv (rF s1 0 17)]) (kX14_fc l G κ s1 (rF s1 0 17) Ws1 (Ws1.f _ _) p11) dmX14_fc zf14 rOb_0 dX14_fileString_17 zw2993 rfl rfl (Nat.le_of_ble_eq_true rfl) (Nat.le_of_ble_eq_true rfl) (Nat.le_of_ble_eq_true rfl) (Nat.le_of_ble_eq_true rfl) (Nat.le_of_ble_eq_true rfl) (kk := fun v17 s17 hv17 Ws17 qs17 => ?_)
    obtain ⟨es17, qs17⟩ := qs17
    have es17 := es17.symm
    subst es17
    have h := h v17 hv17 qs17
    refine z_bipush hC (pc := 20) (v := Int32.ofInt 34) dX14_fileString_20 (by decide) ?_
    obtain ⟨hT, hF⟩ := h
    refine y_icmp_eq hC (pc := 22) 35 hv17 (r_lit rfl) dX14_fileString_22 (by decide) (fun c => ?_) (fun c => ?_)
    · have h := hT c
      refine z_aload_n hC (pc := 35) 0 dX14_fileString_35 rfl rfl ?_
      refine z_aload_n hC (pc := 36) 0 dX14_fileString_36 rfl rfl ?_
      refine y_get hC (pc := 37) zf14 rOb_0 17 (v := iv (rF s1 0 17)) dX14_fileString_37 zw2484 (rv_i (Or.inl rfl) rfl) (kk := ?_)
      refine y_putI hC (pc := 40) zf14 rOb_0 21 (x := (rF s1 0 17)) dX14_fileString_40 zw2488 (Or.inl rfl) rfl rfl (kk := ?_)
      have W12 := Ws1.sF (q := 0) (f := 21) (x := (rF s1 0 17)) (Ws1.f _ _)
      refine z_aload_n hC (pc := 43) 0 dX14_fileString_43 rfl rfl ?_
      refine y_get hC (pc := 44) zf14 rOb_0 17 (v := iv (rF s1 0 17)) dX14_fileString_44 zw2484 (rv_i (Or.inl rfl) ((F_sF_ne (by decide)).trans rfl)) (kk := ?_)
      refine z_iconst hC (pc := 47) (v := Int32.ofInt 1) dX14_fileString_47 (by decide) ?_
      refine y_iadd hC (pc := 48) (v := ((rF s1 0 17) + 1)) dX14_fileString_48 rfl ?_
      refine z_istore_n hC (pc := 49) (lv' := [(1, iv ((rF s1 0 17) + 1)), (0, .ref (κ 0))]) dX14_fileString_49 rfl (by decide) rfl ?_
      have j50 : ∀ (d50 : Nat), ∀ (s50 : rS) (y50_1 : Int), rWF s50 → rng y50_1 → rKeep 0xe21c00 0 0 0 0 σ s50 → inv_X14_fileString_f_50 σ s50 y50_1 → (mu_X14_fileString_f_50 σ  s50 y50_1) ≤ d50 → zS X G 2 (rW G κ s50) [(0, .ref (κ 0)), (1, iv y50_1)] 0 0 50 [] := by
        intro d50
        induction d50 with
        | zero =>
          intro s50 y50_1 Ws50 hy50_1 kJ hI hmu
          exact absurd hmu (by have := h_50m  s50 y50_1 Ws50 hy50_1 (kJ.R rfl) (kJ.F rfl) hI; omega)
        | succ d50 ih50 =>
          intro s50 y50_1 Ws50 hy50_1 kJ hI hmu50
          have h := h_50  s50 y50_1 Ws50 hy50_1 (kJ.R rfl) (kJ.F rfl) hI
          refine z_iload_n hC (pc := 50) 1 dX14_fileString_50 rfl rfl ?_
          refine z_aload_n hC (pc := 51) 0 dX14_fileString_51 rfl rfl ?_
          refine y_get hC (pc := 52) zf14 rOb_0 16 (v := iv (rF s50 0 16)) dX14_fileString_52 zw2483 (rv_i (Or.inl rfl) rfl) (kk := ?_)
          have h := h (Ws50.f _ _)
          obtain ⟨hT, hF⟩ := h
          refine y_icmp_ge hC (pc := 55) 86 hy50_1 (Ws50.f _ _) dX14_fileString_55 (by decide) (fun c => ?_) (fun c => ?_)
          · have h := hT c
            refine z_iload_n hC (pc := 86) 1 dX14_fileString_86 rfl rfl ?_
            refine z_aload_n hC (pc := 87) 0 dX14_fileString_87 rfl rfl ?_
            refine y_get hC (pc := 88) zf14 rOb_0 16 (v := iv (rF s50 0 16)) dX14_fileString_88 zw2483 (rv_i (Or.inl rfl) rfl) (kk := ?_)
            obtain ⟨hT, hF⟩ := h
            refine y_icmp_ge hC (pc := 91) 105 hy50_1 (Ws50.f _ _) dX14_fileString_91 (by decide) (fun c => ?_) (fun c => ?_)
            · have h := hT c
              refine z_aload_n hC (pc := 105) 0 dX14_fileString_105 rfl rfl ?_
              refine z_iconst hC (pc := 106) (v := Int32.ofInt 1) dX14_fileString_106 (by decide) ?_
              refine z_iload_n hC (pc := 107) 1 dX14_fileString_107 rfl rfl ?_
              obtain ⟨p13, h⟩ := h
              refine y_callVv hC (pc := 108) (As := [iv 1, iv y50_1]) (kX14_bad l G κ s50 1 y50_1 Ws50 (r_lit rfl) hy50_1 p13) dmX14_bad zf14 rOb_0 dX14_fileString_108 zw3000 rfl rfl (Nat.le_of_ble_eq_true rfl) (Nat.le_of_ble_eq_true rfl) (Nat.le_of_ble_eq_true rfl) (Nat.le_of_ble_eq_true rfl) (Nat.le_of_ble_eq_true rfl) (kk := fun s108 Ws108 qs108 => ?_)
              have h := h s108 Ws108 (qs108.1.R rfl) (qs108.1.F rfl) (qs108.1.F rfl) (qs108.1.F rfl) (qs108.1.F rfl) (qs108.1.F rfl) qs108.2
              exact y_retv hR dX14_fileString_111 Ws108 (Nat.le_of_ble_eq_true rfl) (Nat.le_of_ble_eq_true rfl) ⟨(rKeep.tr (rKeep.tr rKeep.rf kJ rfl rfl rfl rfl rfl) qs108.1 rfl rfl rfl rfl rfl), h⟩
            · have h := hF c
              refine z_aload_n hC (pc := 94) 0 dX14_fileString_94 rfl rfl ?_
              obtain ⟨g14, h⟩ := h
              refine y_get hC (pc := 95) zf14 rOb_0 15 (v := .ref (κ (rR s50 15))) dX14_fileString_95 zw2482 (rv_b rfl rfl g14) (kk := ?_)
              refine z_iload_n hC (pc := 98) 1 dX14_fileString_98 rfl rfl ?_
              obtain ⟨b15, h⟩ := h
              refine y_bald hC (pc := 99) (rAr_f g14) dX14_fileString_99 b15 (v := (rA s50 (rR s50 15) y50_1)) rfl (kk := ?_)
              have h := h (Ws50.a _ _)
              refine z_bipush hC (pc := 100) (v := Int32.ofInt 10) dX14_fileString_100 (by decide) ?_
              obtain ⟨hT, hF⟩ := h
              refine y_icmp_ne hC (pc := 102) 112 (Ws50.a _ _) (r_lit rfl) dX14_fileString_102 (by decide) (fun c => ?_) (fun c => ?_)
              · have h := hT c
                refine z_aload_n hC (pc := 112) 0 dX14_fileString_112 rfl rfl ?_
                refine z_aload_n hC (pc := 113) 0 dX14_fileString_113 rfl rfl ?_
                refine y_get hC (pc := 114) zf14 rOb_0 17 (v := iv (rF s50 0 17)) dX14_fileString_114 zw2484 (rv_i (Or.inl rfl) rfl) (kk := ?_)
                have h := h (Ws50.f _ _)
                refine z_iconst hC (pc := 117) (v := Int32.ofInt 1) dX14_fileString_117 (by decide) ?_
                refine y_iadd hC (pc := 118) (v := ((rF s50 0 17) + 1)) dX14_fileString_118 rfl ?_
                obtain ⟨r16, h⟩ := h
                refine y_putI hC (pc := 119) zf14 rOb_0 22 (x := ((rF s50 0 17) + 1)) dX14_fileString_119 zw2489 (Or.inl rfl) rfl rfl (kk := ?_)
                have W17 := Ws50.sF (q := 0) (f := 22) (x := ((rF s50 0 17) + 1)) r16
                refine z_aload_n hC (pc := 122) 0 dX14_fileString_122 rfl rfl ?_
                refine z_iload_n hC (pc := 123) 1 dX14_fileString_123 rfl rfl ?_
                refine y_putI hC (pc := 124) zf14 rOb_0 23 (x := y50_1) dX14_fileString_124 zw2490 (Or.inl rfl) rfl rfl (kk := ?_)
                have W18 := W17.sF (q := 0) (f := 23) (x := y50_1) hy50_1
                refine z_aload_n hC (pc := 127) 0 dX14_fileString_127 rfl rfl ?_
                refine z_iload_n hC (pc := 128) 1 dX14_fileString_128 rfl rfl ?_
                refine z_iconst hC (pc := 129) (v := Int32.ofInt 1) dX14_fileString_129 (by decide) ?_
                refine y_iadd hC (pc := 130) (v := (y50_1 + 1)) dX14_fileString_130 rfl ?_
                obtain ⟨r19, h⟩ := h
                refine y_putI hC (pc := 131) zf14 rOb_0 17 (x := (y50_1 + 1)) dX14_fileString_131 zw2484 (Or.inl rfl) rfl rfl (kk := ?_)
                have W20 := W18.sF (q := 0) (f := 17) (x := (y50_1 + 1)) r19
                exact y_retv hR dX14_fileString_134 W20 (Nat.le_of_ble_eq_true rfl) (Nat.le_of_ble_eq_true rfl) ⟨(rKeep.tr (rKeep.tr (rKeep.tr (rKeep.tr rKeep.rf kJ rfl rfl rfl rfl rfl) (rKeep.sF0 (f := 22)) rfl rfl rfl rfl rfl) (rKeep.sF0 (f := 23)) rfl rfl rfl rfl rfl) (rKeep.sF0 (f := 17)) rfl rfl rfl rfl rfl), h⟩
              · have h := hF c
                refine z_aload_n hC (pc := 105) 0 dX14_fileString_105 rfl rfl ?_
                refine z_iconst hC (pc := 106) (v := Int32.ofInt 1) dX14_fileString_106 (by decide) ?_
                refine z_iload_n hC (pc := 107) 1 dX14_fileString_107 rfl rfl ?_
                obtain ⟨p21, h⟩ := h
                refine y_callVv hC (pc := 108) (As := [iv 1, iv y50_1]) (kX14_bad l G κ s50 1 y50_1 Ws50 (r_lit rfl) hy50_1 p21) dmX14_bad zf14 rOb_0 dX14_fileString_108 zw3000 rfl rfl (Nat.le_of_ble_eq_true rfl) (Nat.le_of_ble_eq_true rfl) (Nat.le_of_ble_eq_true rfl) (Nat.le_of_ble_eq_true rfl) (Nat.le_of_ble_eq_true rfl) (kk := fun s108 Ws108 qs108 => ?_)
                have h := h s108 Ws108 (qs108.1.R rfl) (qs108.1.F rfl) (qs108.1.F rfl) (qs108.1.F rfl) (qs108.1.F rfl) (qs108.1.F rfl) qs108.2
                exact y_retv hR dX14_fileString_111 Ws108 (Nat.le_of_ble_eq_true rfl) (Nat.le_of_ble_eq_true rfl) ⟨(rKeep.tr (rKeep.tr rKeep.rf kJ rfl rfl rfl rfl rfl) qs108.1 rfl rfl rfl rfl rfl), h⟩
          · have h := hF c
            refine z_aload_n hC (pc := 58) 0 dX14_fileString_58 rfl rfl ?_
            obtain ⟨g22, h⟩ := h
            refine y_get hC (pc := 59) zf14 rOb_0 15 (v := .ref (κ (rR s50 15))) dX14_fileString_59 zw2482 (rv_b rfl rfl g22) (kk := ?_)
            refine z_iload_n hC (pc := 62) 1 dX14_fileString_62 rfl rfl ?_
            obtain ⟨b23, h⟩ := h
            refine y_bald hC (pc := 63) (rAr_f g22) dX14_fileString_63 b23 (v := (rA s50 (rR s50 15) y50_1)) rfl (kk := ?_)
            have h := h (Ws50.a _ _)
            refine z_bipush hC (pc := 64) (v := Int32.ofInt 34) dX14_fileString_64 (by decide) ?_
            obtain ⟨hT, hF⟩ := h
            refine y_icmp_eq hC (pc := 66) 86 (Ws50.a _ _) (r_lit rfl) dX14_fileString_66 (by decide) (fun c => ?_) (fun c => ?_)
            · have h := hT c
              refine z_iload_n hC (pc := 86) 1 dX14_fileString_86 rfl rfl ?_
              refine z_aload_n hC (pc := 87) 0 dX14_fileString_87 rfl rfl ?_
              refine y_get hC (pc := 88) zf14 rOb_0 16 (v := iv (rF s50 0 16)) dX14_fileString_88 zw2483 (rv_i (Or.inl rfl) rfl) (kk := ?_)
              obtain ⟨hT, hF⟩ := h
              refine y_icmp_ge hC (pc := 91) 105 hy50_1 (Ws50.f _ _) dX14_fileString_91 (by decide) (fun c => ?_) (fun c => ?_)
              · have h := hT c
                refine z_aload_n hC (pc := 105) 0 dX14_fileString_105 rfl rfl ?_
                refine z_iconst hC (pc := 106) (v := Int32.ofInt 1) dX14_fileString_106 (by decide) ?_
                refine z_iload_n hC (pc := 107) 1 dX14_fileString_107 rfl rfl ?_
                obtain ⟨p24, h⟩ := h
                refine y_callVv hC (pc := 108) (As := [iv 1, iv y50_1]) (kX14_bad l G κ s50 1 y50_1 Ws50 (r_lit rfl) hy50_1 p24) dmX14_bad zf14 rOb_0 dX14_fileString_108 zw3000 rfl rfl (Nat.le_of_ble_eq_true rfl) (Nat.le_of_ble_eq_true rfl) (Nat.le_of_ble_eq_true rfl) (Nat.le_of_ble_eq_true rfl) (Nat.le_of_ble_eq_true rfl) (kk := fun s108 Ws108 qs108 => ?_)
                have h := h s108 Ws108 (qs108.1.R rfl) (qs108.1.F rfl) (qs108.1.F rfl) (qs108.1.F rfl) (qs108.1.F rfl) (qs108.1.F rfl) qs108.2
                exact y_retv hR dX14_fileString_111 Ws108 (Nat.le_of_ble_eq_true rfl) (Nat.le_of_ble_eq_true rfl) ⟨(rKeep.tr (rKeep.tr rKeep.rf kJ rfl rfl rfl rfl rfl) qs108.1 rfl rfl rfl rfl rfl), h⟩
              · have h := hF c
                refine z_aload_n hC (pc := 94) 0 dX14_fileString_94 rfl rfl ?_
                refine y_get hC (pc := 95) zf14 rOb_0 15 (v := .ref (κ (rR s50 15))) dX14_fileString_95 zw2482 (rv_b rfl rfl g22) (kk := ?_)
                refine z_iload_n hC (pc := 98) 1 dX14_fileString_98 rfl rfl ?_
                obtain ⟨b25, h⟩ := h
                refine y_bald hC (pc := 99) (rAr_f g22) dX14_fileString_99 b25 (v := (rA s50 (rR s50 15) y50_1)) rfl (kk := ?_)
                refine z_bipush hC (pc := 100) (v := Int32.ofInt 10) dX14_fileString_100 (by decide) ?_
                obtain ⟨hT, hF⟩ := h
                refine y_icmp_ne hC (pc := 102) 112 (Ws50.a _ _) (r_lit rfl) dX14_fileString_102 (by decide) (fun c => ?_) (fun c => ?_)
                · have h := hT c
                  refine z_aload_n hC (pc := 112) 0 dX14_fileString_112 rfl rfl ?_
                  refine z_aload_n hC (pc := 113) 0 dX14_fileString_113 rfl rfl ?_
                  refine y_get hC (pc := 114) zf14 rOb_0 17 (v := iv (rF s50 0 17)) dX14_fileString_114 zw2484 (rv_i (Or.inl rfl) rfl) (kk := ?_)
                  have h := h (Ws50.f _ _)
                  refine z_iconst hC (pc := 117) (v := Int32.ofInt 1) dX14_fileString_117 (by decide) ?_
                  refine y_iadd hC (pc := 118) (v := ((rF s50 0 17) + 1)) dX14_fileString_118 rfl ?_
                  obtain ⟨r26, h⟩ := h
                  refine y_putI hC (pc := 119) zf14 rOb_0 22 (x := ((rF s50 0 17) + 1)) dX14_fileString_119 zw2489 (Or.inl rfl) rfl rfl (kk := ?_)
                  have W27 := Ws50.sF (q := 0) (f := 22) (x := ((rF s50 0 17) + 1)) r26
                  refine z_aload_n hC (pc := 122) 0 dX14_fileString_122 rfl rfl ?_
                  refine z_iload_n hC (pc := 123) 1 dX14_fileString_123 rfl rfl ?_
                  refine y_putI hC (pc := 124) zf14 rOb_0 23 (x := y50_1) dX14_fileString_124 zw2490 (Or.inl rfl) rfl rfl (kk := ?_)
                  have W28 := W27.sF (q := 0) (f := 23) (x := y50_1) hy50_1
                  refine z_aload_n hC (pc := 127) 0 dX14_fileString_127 rfl rfl ?_
                  refine z_iload_n hC (pc := 128) 1 dX14_fileString_128 rfl rfl ?_
                  refine z_iconst hC (pc := 129) (v := Int32.ofInt 1) dX14_fileString_129 (by decide) ?_
                  refine y_iadd hC (pc := 130) (v := (y50_1 + 1)) dX14_fileString_130 rfl ?_
                  obtain ⟨r29, h⟩ := h
                  refine y_putI hC (pc := 131) zf14 rOb_0 17 (x := (y50_1 + 1)) dX14_fileString_131 zw2484 (Or.inl rfl) rfl rfl (kk := ?_)
                  have W30 := W28.sF (q := 0) (f := 17) (x := (y50_1 + 1)) r29
                  exact y_retv hR dX14_fileString_134 W30 (Nat.le_of_ble_eq_true rfl) (Nat.le_of_ble_eq_true rfl) ⟨(rKeep.tr (rKeep.tr (rKeep.tr (rKeep.tr rKeep.rf kJ rfl rfl rfl rfl rfl) (rKeep.sF0 (f := 22)) rfl rfl rfl rfl rfl) (rKeep.sF0 (f := 23)) rfl rfl rfl rfl rfl) (rKeep.sF0 (f := 17)) rfl rfl rfl rfl rfl), h⟩
                · have h := hF c
                  refine z_aload_n hC (pc := 105) 0 dX14_fileString_105 rfl rfl ?_
                  refine z_iconst hC (pc := 106) (v := Int32.ofInt 1) dX14_fileString_106 (by decide) ?_
                  refine z_iload_n hC (pc := 107) 1 dX14_fileString_107 rfl rfl ?_
                  obtain ⟨p31, h⟩ := h
                  refine y_callVv hC (pc := 108) (As := [iv 1, iv y50_1]) (kX14_bad l G κ s50 1 y50_1 Ws50 (r_lit rfl) hy50_1 p31) dmX14_bad zf14 rOb_0 dX14_fileString_108 zw3000 rfl rfl (Nat.le_of_ble_eq_true rfl) (Nat.le_of_ble_eq_true rfl) (Nat.le_of_ble_eq_true rfl) (Nat.le_of_ble_eq_true rfl) (Nat.le_of_ble_eq_true rfl) (kk := fun s108 Ws108 qs108 => ?_)
                  have h := h s108 Ws108 (qs108.1.R rfl) (qs108.1.F rfl) (qs108.1.F rfl) (qs108.1.F rfl) (qs108.1.F rfl) (qs108.1.F rfl) qs108.2
                  exact y_retv hR dX14_fileString_111 Ws108 (Nat.le_of_ble_eq_true rfl) (Nat.le_of_ble_eq_true rfl) ⟨(rKeep.tr (rKeep.tr rKeep.rf kJ rfl rfl rfl rfl rfl) qs108.1 rfl rfl rfl rfl rfl), h⟩
            · have h := hF c
              refine z_aload_n hC (pc := 69) 0 dX14_fileString_69 rfl rfl ?_
              refine y_get hC (pc := 70) zf14 rOb_0 15 (v := .ref (κ (rR s50 15))) dX14_fileString_70 zw2482 (rv_b rfl rfl g22) (kk := ?_)
              refine z_iload_n hC (pc := 73) 1 dX14_fileString_73 rfl rfl ?_
              obtain ⟨b32, h⟩ := h
              refine y_bald hC (pc := 74) (rAr_f g22) dX14_fileString_74 b32 (v := (rA s50 (rR s50 15) y50_1)) rfl (kk := ?_)
              refine z_bipush hC (pc := 75) (v := Int32.ofInt 10) dX14_fileString_75 (by decide) ?_
              obtain ⟨hT, hF⟩ := h
              refine y_icmp_eq hC (pc := 77) 86 (Ws50.a _ _) (r_lit rfl) dX14_fileString_77 (by decide) (fun c => ?_) (fun c => ?_)
              · have h := hT c
                refine z_iload_n hC (pc := 86) 1 dX14_fileString_86 rfl rfl ?_
                refine z_aload_n hC (pc := 87) 0 dX14_fileString_87 rfl rfl ?_
                refine y_get hC (pc := 88) zf14 rOb_0 16 (v := iv (rF s50 0 16)) dX14_fileString_88 zw2483 (rv_i (Or.inl rfl) rfl) (kk := ?_)
                obtain ⟨hT, hF⟩ := h
                refine y_icmp_ge hC (pc := 91) 105 hy50_1 (Ws50.f _ _) dX14_fileString_91 (by decide) (fun c => ?_) (fun c => ?_)
                · have h := hT c
                  refine z_aload_n hC (pc := 105) 0 dX14_fileString_105 rfl rfl ?_
                  refine z_iconst hC (pc := 106) (v := Int32.ofInt 1) dX14_fileString_106 (by decide) ?_
                  refine z_iload_n hC (pc := 107) 1 dX14_fileString_107 rfl rfl ?_
                  obtain ⟨p33, h⟩ := h
                  refine y_callVv hC (pc := 108) (As := [iv 1, iv y50_1]) (kX14_bad l G κ s50 1 y50_1 Ws50 (r_lit rfl) hy50_1 p33) dmX14_bad zf14 rOb_0 dX14_fileString_108 zw3000 rfl rfl (Nat.le_of_ble_eq_true rfl) (Nat.le_of_ble_eq_true rfl) (Nat.le_of_ble_eq_true rfl) (Nat.le_of_ble_eq_true rfl) (Nat.le_of_ble_eq_true rfl) (kk := fun s108 Ws108 qs108 => ?_)
                  have h := h s108 Ws108 (qs108.1.R rfl) (qs108.1.F rfl) (qs108.1.F rfl) (qs108.1.F rfl) (qs108.1.F rfl) (qs108.1.F rfl) qs108.2
                  exact y_retv hR dX14_fileString_111 Ws108 (Nat.le_of_ble_eq_true rfl) (Nat.le_of_ble_eq_true rfl) ⟨(rKeep.tr (rKeep.tr rKeep.rf kJ rfl rfl rfl rfl rfl) qs108.1 rfl rfl rfl rfl rfl), h⟩
                · have h := hF c
                  refine z_aload_n hC (pc := 94) 0 dX14_fileString_94 rfl rfl ?_
                  refine y_get hC (pc := 95) zf14 rOb_0 15 (v := .ref (κ (rR s50 15))) dX14_fileString_95 zw2482 (rv_b rfl rfl g22) (kk := ?_)
                  refine z_iload_n hC (pc := 98) 1 dX14_fileString_98 rfl rfl ?_
                  obtain ⟨b34, h⟩ := h
                  refine y_bald hC (pc := 99) (rAr_f g22) dX14_fileString_99 b34 (v := (rA s50 (rR s50 15) y50_1)) rfl (kk := ?_)
                  refine z_bipush hC (pc := 100) (v := Int32.ofInt 10) dX14_fileString_100 (by decide) ?_
                  obtain ⟨hT, hF⟩ := h
                  refine y_icmp_ne hC (pc := 102) 112 (Ws50.a _ _) (r_lit rfl) dX14_fileString_102 (by decide) (fun c => ?_) (fun c => ?_)
                  · have h := hT c
                    refine z_aload_n hC (pc := 112) 0 dX14_fileString_112 rfl rfl ?_
                    refine z_aload_n hC (pc := 113) 0 dX14_fileString_113 rfl rfl ?_
                    refine y_get hC (pc := 114) zf14 rOb_0 17 (v := iv (rF s50 0 17)) dX14_fileString_114 zw2484 (rv_i (Or.inl rfl) rfl) (kk := ?_)
                    have h := h (Ws50.f _ _)
                    refine z_iconst hC (pc := 117) (v := Int32.ofInt 1) dX14_fileString_117 (by decide) ?_
                    refine y_iadd hC (pc := 118) (v := ((rF s50 0 17) + 1)) dX14_fileString_118 rfl ?_
                    obtain ⟨r35, h⟩ := h
                    refine y_putI hC (pc := 119) zf14 rOb_0 22 (x := ((rF s50 0 17) + 1)) dX14_fileString_119 zw2489 (Or.inl rfl) rfl rfl (kk := ?_)
                    have W36 := Ws50.sF (q := 0) (f := 22) (x := ((rF s50 0 17) + 1)) r35
                    refine z_aload_n hC (pc := 122) 0 dX14_fileString_122 rfl rfl ?_
                    refine z_iload_n hC (pc := 123) 1 dX14_fileString_123 rfl rfl ?_
                    refine y_putI hC (pc := 124) zf14 rOb_0 23 (x := y50_1) dX14_fileString_124 zw2490 (Or.inl rfl) rfl rfl (kk := ?_)
                    have W37 := W36.sF (q := 0) (f := 23) (x := y50_1) hy50_1
                    refine z_aload_n hC (pc := 127) 0 dX14_fileString_127 rfl rfl ?_
                    refine z_iload_n hC (pc := 128) 1 dX14_fileString_128 rfl rfl ?_
                    refine z_iconst hC (pc := 129) (v := Int32.ofInt 1) dX14_fileString_129 (by decide) ?_
                    refine y_iadd hC (pc := 130) (v := (y50_1 + 1)) dX14_fileString_130 rfl ?_
                    obtain ⟨r38, h⟩ := h
                    refine y_putI hC (pc := 131) zf14 rOb_0 17 (x := (y50_1 + 1)) dX14_fileString_131 zw2484 (Or.inl rfl) rfl rfl (kk := ?_)
                    have W39 := W37.sF (q := 0) (f := 17) (x := (y50_1 + 1)) r38
                    exact y_retv hR dX14_fileString_134 W39 (Nat.le_of_ble_eq_true rfl) (Nat.le_of_ble_eq_true rfl) ⟨(rKeep.tr (rKeep.tr (rKeep.tr (rKeep.tr rKeep.rf kJ rfl rfl rfl rfl rfl) (rKeep.sF0 (f := 22)) rfl rfl rfl rfl rfl) (rKeep.sF0 (f := 23)) rfl rfl rfl rfl rfl) (rKeep.sF0 (f := 17)) rfl rfl rfl rfl rfl), h⟩
                  · have h := hF c
                    refine z_aload_n hC (pc := 105) 0 dX14_fileString_105 rfl rfl ?_
                    refine z_iconst hC (pc := 106) (v := Int32.ofInt 1) dX14_fileString_106 (by decide) ?_
                    refine z_iload_n hC (pc := 107) 1 dX14_fileString_107 rfl rfl ?_
                    obtain ⟨p40, h⟩ := h
                    refine y_callVv hC (pc := 108) (As := [iv 1, iv y50_1]) (kX14_bad l G κ s50 1 y50_1 Ws50 (r_lit rfl) hy50_1 p40) dmX14_bad zf14 rOb_0 dX14_fileString_108 zw3000 rfl rfl (Nat.le_of_ble_eq_true rfl) (Nat.le_of_ble_eq_true rfl) (Nat.le_of_ble_eq_true rfl) (Nat.le_of_ble_eq_true rfl) (Nat.le_of_ble_eq_true rfl) (kk := fun s108 Ws108 qs108 => ?_)
                    have h := h s108 Ws108 (qs108.1.R rfl) (qs108.1.F rfl) (qs108.1.F rfl) (qs108.1.F rfl) (qs108.1.F rfl) (qs108.1.F rfl) qs108.2
                    exact y_retv hR dX14_fileString_111 Ws108 (Nat.le_of_ble_eq_true rfl) (Nat.le_of_ble_eq_true rfl) ⟨(rKeep.tr (rKeep.tr rKeep.rf kJ rfl rfl rfl rfl rfl) qs108.1 rfl rfl rfl rfl rfl), h⟩
              · have h := hF c
                refine y_iinc hC (pc := 80) (v := (y50_1 + 1)) (lv' := [(1, iv (y50_1 + 1)), (0, .ref (κ 0))]) 1 dX14_fileString_80 rfl rfl (by decide) rfl ?_
                refine z_goto hC (pc := 83) 50 dX14_fileString_83 (by decide) ?_
                refine z_lvs [1, 0] rfl ?_
                obtain ⟨r41, h⟩ := h
                obtain ⟨hI, hm⟩ := h
                exact ih50 s50 (y50_1 + 1) Ws50 r41 (rKeep.tr rKeep.rf kJ rfl rfl rfl rfl rfl) hI (by omega)
      refine z_lvs [1, 0] rfl ?_
      obtain ⟨r42, h⟩ := h
      exact j50 _ (sF s1 0 21 (rF s1 0 17)) ((rF s1 0 17) + 1) W12 r42 (rKeep.tr (rKeep.tr rKeep.rf qs1.1 rfl rfl rfl rfl rfl) (rKeep.sF0 (f := 21)) rfl rfl rfl rfl rfl) h (Nat.le_refl _)
    · have h := hF c
      refine z_aload_n hC (pc := 25) 0 dX14_fileString_25 rfl rfl ?_
      refine z_iconst hC (pc := 26) (v := Int32.ofInt 1) dX14_fileString_26 (by decide) ?_
      refine z_aload_n hC (pc := 27) 0 dX14_fileString_27 rfl rfl ?_
      refine y_get hC (pc := 28) zf14 rOb_0 17 (v := iv (rF s1 0 17)) dX14_fileString_28 zw2484 (rv_i (Or.inl rfl) rfl) (kk := ?_)
      obtain ⟨p43, h⟩ := h
      refine y_callVv hC (pc := 31) (As := [iv 1, iv (rF s1 0 17)]) (kX14_bad l G κ s1 1 (rF s1 0 17) Ws1 (r_lit rfl) (Ws1.f _ _) p43) dmX14_bad zf14 rOb_0 dX14_fileString_31 zw3000 rfl rfl (Nat.le_of_ble_eq_true rfl) (Nat.le_of_ble_eq_true rfl) (Nat.le_of_ble_eq_true rfl) (Nat.le_of_ble_eq_true rfl) (Nat.le_of_ble_eq_true rfl) (kk := fun s31 Ws31 qs31 => ?_)
      have h := h s31 Ws31 (qs31.1.R rfl) (qs31.1.F rfl) (qs31.1.F rfl) (qs31.1.F rfl) (qs31.1.F rfl) (qs31.1.F rfl) qs31.2
      exact y_retv hR dX14_fileString_34 Ws31 (Nat.le_of_ble_eq_true rfl) (Nat.le_of_ble_eq_true rfl) ⟨(rKeep.tr (rKeep.tr rKeep.rf qs1.1 rfl rfl rfl rfl rfl) qs31.1 rfl rfl rfl rfl rfl), h⟩
  · have h := hF c
    exact y_retv hR dX14_fileString_11 Ws1 (Nat.le_of_ble_eq_true rfl) (Nat.le_of_ble_eq_true rfl) ⟨(rKeep.tr rKeep.rf qs1.1 rfl rfl rfl rfl rfl), h⟩
theorem kX14_fileString_f (l : Launch) (G : zG) (κ : Nat → Nat) (σ : rS) (hwf : rWF σ) (hp : pre_X14_fileString_f σ ) : rMv l G κ yX14_fileString cX14_fileString 2 4 65 [.ref (κ 0)] σ (fun s => rKeep 0xe21c00 0 0 0 0 σ s ∧ post_X14_fileString_f σ s) := wX14_fileString_f l G κ σ hwf (post_X14_fileString_f σ ) (vX14_fileString_f σ hwf hp) (vX14_fileString_f_50 σ hwf hp) (vX14_fileString_f_50m σ hwf hp)
def pre_X14_fileName_f (σ : rS)  : Prop := 0 ≤ (rF σ 0 17) ∧ 0 ≤ (rF σ 0 16) ∧ (rF σ 0 16) ≤ 4000 ∧ rfk (rR σ 15) ∧ (rF σ 0 17) ≤ (rF σ 0 16) ∧ rNMp σ ∧ (rF σ (rR σ 7) 12) + ((rF σ 0 16) - (rF σ 0 17)) ≤ 16990 ∧ (rF σ (rR σ 7) 9) + ((rF σ 0 16) - (rF σ 0 17)) ≤ 59990
def post_X14_fileName_f (σ : rS)  (r : Int) (σ' : rS) : Prop := (rF σ 0 17) ≤ (rF σ' 0 17) ∧ (rF σ' 0 17) ≤ (rF σ 0 16) ∧ fz σ ≤ fz σ' ∧ rNMp σ' ∧ (rF σ (rR σ 7) 12) ≤ rF σ' (rR σ 7) 12 ∧ (rF σ (rR σ 7) 9) ≤ rF σ' (rR σ 7) 9 ∧ rF σ' (rR σ 7) 12 + (rF σ 0 17) ≤ (rF σ (rR σ 7) 12) + (rF σ' 0 17) ∧ rF σ' (rR σ 7) 9 + (rF σ 0 17) ≤ (rF σ (rR σ 7) 9) + (rF σ' 0 17) ∧ (fz σ' = 1 ∨ ((rF σ 0 17) ≤ (rF σ' 0 21) ∧ (rF σ' 0 21) < (rF σ' 0 17) ∧ 0 ≤ r ∧ r < rF σ' (rR σ 7) 12))
def VC_X14_fileName_f (σ : rS) (Q : Int → rS → Prop) : Prop := rgk (rR σ 7) ∧ pre_X14_skip σ ∧ (∀ (s1 : rS), rWF s1 → (rNMp σ → rNMp s1) → rR s1 7 = rR σ 7 → rR s1 15 = rR σ 15 → rF s1 0 16 = rF σ 0 16 → rF s1 0 21 = rF σ 0 21 → rF s1 (rR σ 7) 9 = rF σ (rR σ 7) 9 → rF s1 (rR σ 7) 12 = rF σ (rR σ 7) 12 → (∀ i, rA s1 (1000 * ((rR σ 7) + 1) + 10) i = rA σ (1000 * ((rR σ 7) + 1) + 10) i) → (∀ i, rA s1 (1000 * ((rR σ 7) + 1) + 11) i = rA σ (1000 * ((rR σ 7) + 1) + 11) i) → post_X14_skip σ s1 → (rng (rF s1 0 10) → (((rF s1 0 10) = 0 → rfk (rR σ 15) ∧ (rng (rF s1 0 16) → (rng (rF s1 0 17) → pre_X14_wordEnd s1 (rR σ 15) 4000 (rF s1 0 16) (rF s1 0 17) ∧ (∀ (v25 : Int), rng v25 → post_X14_wordEnd s1 (rR σ 15) 4000 (rF s1 0 16) (rF s1 0 17) v25 → ((v25 = (rF s1 0 17) → pre_X14_bad (sF s1 0 21 (rF s1 0 17)) 1 (rF s1 0 17) ∧ (∀ (s58 : rS), rWF s58 → (rNMp (sF s1 0 21 (rF s1 0 17)) → rNMp s58) → rR s58 7 = rR (sF s1 0 21 (rF s1 0 17)) 7 → rR s58 15 = rR (sF s1 0 21 (rF s1 0 17)) 15 → rF s58 0 16 = rF (sF s1 0 21 (rF s1 0 17)) 0 16 → rF s58 0 17 = rF (sF s1 0 21 (rF s1 0 17)) 0 17 → rF s58 0 21 = rF (sF s1 0 21 (rF s1 0 17)) 0 21 → rF s58 (rR σ 7) 9 = rF (sF s1 0 21 (rF s1 0 17)) (rR σ 7) 9 → rF s58 (rR σ 7) 12 = rF (sF s1 0 21 (rF s1 0 17)) (rR σ 7) 12 → (∀ i, rA s58 (1000 * ((rR σ 7) + 1) + 10) i = rA (sF s1 0 21 (rF s1 0 17)) (1000 * ((rR σ 7) + 1) + 10) i) → (∀ i, rA s58 (1000 * ((rR σ 7) + 1) + 11) i = rA (sF s1 0 21 (rF s1 0 17)) (1000 * ((rR σ 7) + 1) + 11) i) → post_X14_bad (sF s1 0 21 (rF s1 0 17)) 1 (rF s1 0 17) s58 → (rng (rF s58 0 10) → (((rF s58 0 10) = 0 → rng (v25 - (rF s1 0 17)) ∧ pre_X13_name s58 (rR σ 7) (rR σ 15) 4000 (rF s1 0 17) (v25 - (rF s1 0 17)) ∧ (∀ (v111 : Int) (s111 : rS), rng v111 → rWF s111 → rR s111 7 = rR s58 7 → rR s111 15 = rR s58 15 → rF s111 0 10 = rF s58 0 10 → rF s111 0 16 = rF s58 0 16 → rF s111 0 17 = rF s58 0 17 → rF s111 0 21 = rF s58 0 21 → fz s111 = fz s58 → post_X13_name s58 (rR σ 7) (rR σ 15) 4000 (rF s1 0 17) (v25 - (rF s1 0 17)) v111 s111 → Q v111 (sF s111 0 17 v25))) ∧ (¬ (rF s58 0 10) = 0 → Q 0 s58))))) ∧ (¬ v25 = (rF s1 0 17) → pre_X14_isFileReserved (sF s1 0 21 (rF s1 0 17)) ∧ (∀ (v46 : Int), rng v46 → post_X14_isFileReserved (sF s1 0 21 (rF s1 0 17)) v46 → ((v46 = 0 → rng (v25 - (rF s1 0 17)) ∧ (((v25 - (rF s1 0 17)) ≤ 16 → (((rF s1 0 10) = 0 → pre_X13_name (sF s1 0 21 (rF s1 0 17)) (rR σ 7) (rR σ 15) 4000 (rF s1 0 17) (v25 - (rF s1 0 17)) ∧ (∀ (v111 : Int) (s111 : rS), rng v111 → rWF s111 → rR s111 7 = rR (sF s1 0 21 (rF s1 0 17)) 7 → rR s111 15 = rR (sF s1 0 21 (rF s1 0 17)) 15 → rF s111 0 10 = rF (sF s1 0 21 (rF s1 0 17)) 0 10 → rF s111 0 16 = rF (sF s1 0 21 (rF s1 0 17)) 0 16 → rF s111 0 17 = rF (sF s1 0 21 (rF s1 0 17)) 0 17 → rF s111 0 21 = rF (sF s1 0 21 (rF s1 0 17)) 0 21 → fz s111 = fz (sF s1 0 21 (rF s1 0 17)) → post_X13_name (sF s1 0 21 (rF s1 0 17)) (rR σ 7) (rR σ 15) 4000 (rF s1 0 17) (v25 - (rF s1 0 17)) v111 s111 → Q v111 (sF s111 0 17 v25))) ∧ (¬ (rF s1 0 10) = 0 → Q 0 (sF s1 0 21 (rF s1 0 17))))) ∧ (¬ (v25 - (rF s1 0 17)) ≤ 16 → pre_X14_bad (sF s1 0 21 (rF s1 0 17)) 2 (rF s1 0 17) ∧ (∀ (s81 : rS), rWF s81 → (rNMp (sF s1 0 21 (rF s1 0 17)) → rNMp s81) → rR s81 7 = rR (sF s1 0 21 (rF s1 0 17)) 7 → rR s81 15 = rR (sF s1 0 21 (rF s1 0 17)) 15 → rF s81 0 16 = rF (sF s1 0 21 (rF s1 0 17)) 0 16 → rF s81 0 17 = rF (sF s1 0 21 (rF s1 0 17)) 0 17 → rF s81 0 21 = rF (sF s1 0 21 (rF s1 0 17)) 0 21 → rF s81 (rR σ 7) 9 = rF (sF s1 0 21 (rF s1 0 17)) (rR σ 7) 9 → rF s81 (rR σ 7) 12 = rF (sF s1 0 21 (rF s1 0 17)) (rR σ 7) 12 → (∀ i, rA s81 (1000 * ((rR σ 7) + 1) + 10) i = rA (sF s1 0 21 (rF s1 0 17)) (1000 * ((rR σ 7) + 1) + 10) i) → (∀ i, rA s81 (1000 * ((rR σ 7) + 1) + 11) i = rA (sF s1 0 21 (rF s1 0 17)) (1000 * ((rR σ 7) + 1) + 11) i) → post_X14_bad (sF s1 0 21 (rF s1 0 17)) 2 (rF s1 0 17) s81 → (rng (rF s81 0 10) → (((rF s81 0 10) = 0 → pre_X13_name s81 (rR σ 7) (rR σ 15) 4000 (rF s1 0 17) (v25 - (rF s1 0 17)) ∧ (∀ (v111 : Int) (s111 : rS), rng v111 → rWF s111 → rR s111 7 = rR s81 7 → rR s111 15 = rR s81 15 → rF s111 0 10 = rF s81 0 10 → rF s111 0 16 = rF s81 0 16 → rF s111 0 17 = rF s81 0 17 → rF s111 0 21 = rF s81 0 21 → fz s111 = fz s81 → post_X13_name s81 (rR σ 7) (rR σ 15) 4000 (rF s1 0 17) (v25 - (rF s1 0 17)) v111 s111 → Q v111 (sF s111 0 17 v25))) ∧ (¬ (rF s81 0 10) = 0 → Q 0 s81))))))) ∧ (¬ v46 = 0 → pre_X14_bad (sF s1 0 21 (rF s1 0 17)) 1 (rF s1 0 17) ∧ (∀ (s58 : rS), rWF s58 → (rNMp (sF s1 0 21 (rF s1 0 17)) → rNMp s58) → rR s58 7 = rR (sF s1 0 21 (rF s1 0 17)) 7 → rR s58 15 = rR (sF s1 0 21 (rF s1 0 17)) 15 → rF s58 0 16 = rF (sF s1 0 21 (rF s1 0 17)) 0 16 → rF s58 0 17 = rF (sF s1 0 21 (rF s1 0 17)) 0 17 → rF s58 0 21 = rF (sF s1 0 21 (rF s1 0 17)) 0 21 → rF s58 (rR σ 7) 9 = rF (sF s1 0 21 (rF s1 0 17)) (rR σ 7) 9 → rF s58 (rR σ 7) 12 = rF (sF s1 0 21 (rF s1 0 17)) (rR σ 7) 12 → (∀ i, rA s58 (1000 * ((rR σ 7) + 1) + 10) i = rA (sF s1 0 21 (rF s1 0 17)) (1000 * ((rR σ 7) + 1) + 10) i) → (∀ i, rA s58 (1000 * ((rR σ 7) + 1) + 11) i = rA (sF s1 0 21 (rF s1 0 17)) (1000 * ((rR σ 7) + 1) + 11) i) → post_X14_bad (sF s1 0 21 (rF s1 0 17)) 1 (rF s1 0 17) s58 → (rng (rF s58 0 10) → (((rF s58 0 10) = 0 → rng (v25 - (rF s1 0 17)) ∧ pre_X13_name s58 (rR σ 7) (rR σ 15) 4000 (rF s1 0 17) (v25 - (rF s1 0 17)) ∧ (∀ (v111 : Int) (s111 : rS), rng v111 → rWF s111 → rR s111 7 = rR s58 7 → rR s111 15 = rR s58 15 → rF s111 0 10 = rF s58 0 10 → rF s111 0 16 = rF s58 0 16 → rF s111 0 17 = rF s58 0 17 → rF s111 0 21 = rF s58 0 21 → fz s111 = fz s58 → post_X13_name s58 (rR σ 7) (rR σ 15) 4000 (rF s1 0 17) (v25 - (rF s1 0 17)) v111 s111 → Q v111 (sF s111 0 17 v25))) ∧ (¬ (rF s58 0 10) = 0 → Q 0 s58))))))))))))) ∧ (¬ (rF s1 0 10) = 0 → Q 0 s1))))
set_option maxHeartbeats 20000000 in
theorem vX14_fileName_f (σ : rS) (hwf : rWF σ) (hp : pre_X14_fileName_f σ ) : VC_X14_fileName_f σ (post_X14_fileName_f σ ) := by
  unfold pre_X14_fileName_f at hp
  obtain ⟨hp_1, hp_2, hp_3, hp_4, hp_5, hp_6, hp_7, hp_8⟩ := hp
  have zr0 := fz_rng σ
  unfold VC_X14_fileName_f
  refine ⟨(by (all_goals (repeat' (first | with_reducible intro _ | with_reducible apply And.intro))); all_goals (first | assumption | trivial | omega | (have zz_ := fz_z (by assumption); omega) | (split <;> omega) | (exact hp_6.1) | (exact rNM_sF0 hp_6.1 (rNMp.to (by assumption) (by assumption))) | (exact rNMp.to (by assumption) (by simp only [*])) | (exact rNMp.of (by assumption) (by simp only [*]) hp_6.1) | grind (splits := 20) [Im])), ?_⟩
  refine ⟨(by (try simp only [pre_X14_skip]); (all_goals (repeat' (first | with_reducible intro _ | with_reducible apply And.intro))); all_goals (first | assumption | trivial | ((with_reducible refine Im.i fun hf_ => ?_); first | exact ((fun _ => RG.rf) hf_) | exact ok1.i | (exact LI.z (fun h => absurd h (by decide))) | (exact absurd hf_ (by omega)) | omega) | omega | (have zz_ := fz_z (by assumption); omega) | (split <;> omega) | (exact hp_6.1) | (exact rNM_sF0 hp_6.1 (rNMp.to (by assumption) (by assumption))) | (exact rNMp.to (by assumption) (by simp only [*])) | (exact rNMp.of (by assumption) (by simp only [*]) hp_6.1) | grind (splits := 20) [Im])), ?_⟩
  intro s1 Ws1 e1_0 e1_1 e1_2 e1_3 e1_4 e1_5 e1_6 e1_7 e1_8 q1
  have q1 := dig_X14_skip q1
  obtain ⟨q1_1, q1_2, q1_3⟩ := q1
  have zr1 := fz_rng s1
  have rNMp_1 := e1_0 hp_6; clear e1_0
  intro hr_; unfold rng at hr_
  refine ⟨fun c8 => ?_, fun c8 => ?_⟩
  · have z8 := fz_z c8
    refine ⟨(by (all_goals (repeat' (first | with_reducible intro _ | with_reducible apply And.intro))); all_goals (first | assumption | trivial | ((with_reducible refine Im.i fun hf_ => ?_); first | exact ((fun _ => RG.rf) hf_) | exact ok1.i | (exact LI.z (fun h => absurd h (by decide))) | (exact absurd hf_ (by omega)) | omega) | omega | (have zz_ := fz_z (by assumption); omega) | (split <;> omega) | (exact hp_6.1) | (exact rNM_sF0 hp_6.1 (rNMp.to (by assumption) (by assumption))) | (exact rNMp.to (by assumption) (by simp only [*])) | (exact rNMp.of (by assumption) (by simp only [*]) hp_6.1) | grind (splits := 20) [Im])), ?_⟩
    intro hr_; unfold rng at hr_
    intro hr_; unfold rng at hr_
    refine ⟨(by (try simp only [pre_X14_wordEnd]); (all_goals (repeat' (first | with_reducible intro _ | with_reducible apply And.intro))); all_goals (first | assumption | trivial | ((with_reducible refine Im.i fun hf_ => ?_); first | exact ((fun _ => RG.rf) hf_) | exact ok1.i | (exact LI.z (fun h => absurd h (by decide))) | (exact absurd hf_ (by omega)) | omega) | omega | (have zz_ := fz_z (by assumption); omega) | (split <;> omega) | (exact hp_6.1) | (exact rNM_sF0 hp_6.1 (rNMp.to (by assumption) (by assumption))) | (exact rNMp.to (by assumption) (by simp only [*])) | (exact rNMp.of (by assumption) (by simp only [*]) hp_6.1) | grind (splits := 20) [Im])), ?_⟩
    intro v25 hv25 q25
    unfold rng at hv25
    unfold post_X14_wordEnd at q25
    obtain ⟨q25_1, q25_2⟩ := q25
    refine ⟨fun c42 => ?_, fun c42 => ?_⟩
    · refine ⟨(by (try simp only [pre_X14_bad, reduceIte, and_true, true_and, and_false, false_and, and_self, Nat.reduceEqDiff, fz_sF21, rF_sF, rA_sF, rR_sF, tr_sF, rNMp_sF, PNp_sF, GS_F21, OP_F21, NR_F21, LI_F21, RG_l21, RG_r21, TPRp_sF21, WNp_sF21, VMp_sF21, KYp_sF21, PPp_sF21, WFp_sF21, CCp_sF21]); (all_goals (repeat' (first | with_reducible intro _ | with_reducible apply And.intro))); all_goals (first | assumption | trivial | ((with_reducible refine Im.i fun hf_ => ?_); first | exact ((fun _ => RG.rf) hf_) | exact ok1.i | (exact LI.z (fun h => absurd h (by decide))) | (exact absurd hf_ (by omega)) | omega) | omega | (have zz_ := fz_z (by assumption); omega) | (split <;> omega) | (exact hp_6.1) | (exact rNM_sF0 hp_6.1 (rNMp.to (by assumption) (by assumption))) | (exact rNMp.to (by assumption) (by simp only [*])) | (exact rNMp.of (by assumption) (by simp only [*]) hp_6.1) | grind (splits := 20) [Im])), ?_⟩
      intro s58 Ws58 e58_0 e58_1 e58_2 e58_3 e58_4 e58_5 e58_6 e58_7 e58_8 e58_9 q58
      have q58 := dig_bad q58 (by (try simp only [reduceIte, and_true, true_and, and_false, false_and, and_self, Nat.reduceEqDiff, fz_sF21, rF_sF, rA_sF, rR_sF, tr_sF, rNMp_sF, PNp_sF, GS_F21, OP_F21, NR_F21, LI_F21, RG_l21, RG_r21, TPRp_sF21, WNp_sF21, VMp_sF21, KYp_sF21, PPp_sF21, WFp_sF21, CCp_sF21]); omega)
      obtain ⟨q58_1, q58_2⟩ := q58
      (try simp only [reduceIte, and_true, true_and, and_false, false_and, and_self, Nat.reduceEqDiff, fz_sF21, rF_sF, rA_sF, rR_sF, tr_sF, rNMp_sF, PNp_sF, GS_F21, OP_F21, NR_F21, LI_F21, RG_l21, RG_r21, TPRp_sF21, WNp_sF21, VMp_sF21, KYp_sF21, PPp_sF21, WFp_sF21, CCp_sF21] at q58_1 q58_2 e58_0 e58_1 e58_2 e58_3 e58_4 e58_5 e58_6 e58_7 e58_8 e58_9)
      have zr58 := fz_rng s58
      have rNMp_58 := e58_0 rNMp_1; clear e58_0
      intro hr_; unfold rng at hr_
      refine ⟨fun c88 => ?_, fun c88 => ?_⟩
      · have z88 := fz_z c88
        refine ⟨(by (try simp only [rng]); (all_goals (repeat' (first | with_reducible intro _ | with_reducible apply And.intro))); all_goals (first | assumption | trivial | ((with_reducible refine Im.i fun hf_ => ?_); first | exact ((fun _ => RG.rf) hf_) | exact ok1.i | (exact LI.z (fun h => absurd h (by decide))) | (exact absurd hf_ (by omega)) | omega) | omega | (have zz_ := fz_z (by assumption); omega) | (split <;> omega) | (exact hp_6.1) | (exact rNM_sF0 hp_6.1 (rNMp.to (by assumption) (by assumption))) | (exact rNMp.to (by assumption) (by simp only [*])) | (exact rNMp.of (by assumption) (by simp only [*]) hp_6.1) | grind (splits := 20) [Im])), ?_⟩
        refine ⟨(by (try simp only [pre_X13_name]); (all_goals (repeat' (first | with_reducible intro _ | with_reducible apply And.intro))); all_goals (first | assumption | trivial | ((with_reducible refine Im.i fun hf_ => ?_); first | exact ((fun _ => RG.rf) hf_) | exact ok1.i | (exact LI.z (fun h => absurd h (by decide))) | (exact absurd hf_ (by omega)) | omega) | omega | (have zz_ := fz_z (by assumption); omega) | (split <;> omega) | (exact hp_6.1) | (exact rNM_sF0 hp_6.1 (rNMp.to (by assumption) (by assumption))) | (exact rNMp.to (by assumption) (by simp only [*])) | (exact rNMp.of (by assumption) (by simp only [*]) hp_6.1) | grind (splits := 20) [Im])), ?_⟩
        intro v111 s111 hv111 Ws111 e111_0 e111_1 e111_2 e111_3 e111_4 e111_5 e111_6 q111
        unfold rng at hv111
        unfold post_X13_name at q111
        obtain ⟨q111_1, q111_2, q111_3, q111_4, q111_5, q111_6, q111_7⟩ := q111
        have zr111 := fz_rng s111
        exact (by (try simp only [post_X14_fileName_f, reduceIte, and_true, true_and, and_false, false_and, and_self, Nat.reduceEqDiff, fz_sF17, rF_sF, rA_sF, rR_sF, tr_sF, rNMp_sF, PNp_sF, GS_F17, OP_F17, NR_F17, LI_F17, RG_l17, RG_r17, TPRp_sF17, WNp_sF17, VMp_sF17, KYp_sF17, PPp_sF17, WFp_sF17, CCp_sF17]); (all_goals (repeat' (first | with_reducible intro _ | with_reducible apply And.intro))); all_goals (first | assumption | trivial | ((with_reducible refine Im.i fun hf_ => ?_); first | exact ((fun _ => RG.rf) hf_) | exact ok1.i | (exact LI.z (fun h => absurd h (by decide))) | (exact absurd hf_ (by omega)) | omega) | omega | (have zz_ := fz_z (by assumption); omega) | (split <;> omega) | (exact hp_6.1) | (exact rNM_sF0 hp_6.1 (rNMp.to (by assumption) (by assumption))) | (exact rNMp.to (by assumption) (by simp only [*])) | (exact rNMp.of (by assumption) (by simp only [*]) hp_6.1) | grind (splits := 20) [Im]))
      · have z88 := fz_n c88
        exact (by (try simp only [post_X14_fileName_f]); (all_goals (repeat' (first | with_reducible intro _ | with_reducible apply And.intro))); all_goals (first | assumption | trivial | ((with_reducible refine Im.i fun hf_ => ?_); first | exact ((fun _ => RG.rf) hf_) | exact ok1.i | (exact LI.z (fun h => absurd h (by decide))) | (exact absurd hf_ (by omega)) | omega) | omega | (have zz_ := fz_z (by assumption); omega) | (split <;> omega) | (exact hp_6.1) | (exact rNM_sF0 hp_6.1 (rNMp.to (by assumption) (by assumption))) | (exact rNMp.to (by assumption) (by simp only [*])) | (exact rNMp.of (by assumption) (by simp only [*]) hp_6.1) | grind (splits := 20) [Im]))
    · refine ⟨(by (try simp only [pre_X14_isFileReserved, reduceIte, and_true, true_and, and_false, false_and, and_self, Nat.reduceEqDiff, fz_sF21, rF_sF, rA_sF, rR_sF, tr_sF, rNMp_sF, PNp_sF, GS_F21, OP_F21, NR_F21, LI_F21, RG_l21, RG_r21, TPRp_sF21, WNp_sF21, VMp_sF21, KYp_sF21, PPp_sF21, WFp_sF21, CCp_sF21]); (all_goals (repeat' (first | with_reducible intro _ | with_reducible apply And.intro))); all_goals (first | assumption | trivial | ((with_reducible refine Im.i fun hf_ => ?_); first | exact ((fun _ => RG.rf) hf_) | exact ok1.i | (exact LI.z (fun h => absurd h (by decide))) | (exact absurd hf_ (by omega)) | omega) | omega | (have zz_ := fz_z (by assumption); omega) | (split <;> omega) | (exact hp_6.1) | (exact rNM_sF0 hp_6.1 (rNMp.to (by assumption) (by assumption))) | (exact rNMp.to (by assumption) (by simp only [*])) | (exact rNMp.of (by assumption) (by simp only [*]) hp_6.1) | grind (splits := 20) [Im])), ?_⟩
      intro v46 hv46 q46
      unfold rng at hv46
      unfold post_X14_isFileReserved at q46
      (try simp only [reduceIte, and_true, true_and, and_false, false_and, and_self, Nat.reduceEqDiff, fz_sF21, rF_sF, rA_sF, rR_sF, tr_sF, rNMp_sF, PNp_sF, GS_F21, OP_F21, NR_F21, LI_F21, RG_l21, RG_r21, TPRp_sF21, WNp_sF21, VMp_sF21, KYp_sF21, PPp_sF21, WFp_sF21, CCp_sF21] at q46)
      refine ⟨fun c49 => ?_, fun c49 => ?_⟩
      · refine ⟨(by (try simp only [rng, reduceIte, and_true, true_and, and_false, false_and, and_self, Nat.reduceEqDiff, fz_sF21, rF_sF, rA_sF, rR_sF, tr_sF, rNMp_sF, PNp_sF, GS_F21, OP_F21, NR_F21, LI_F21, RG_l21, RG_r21, TPRp_sF21, WNp_sF21, VMp_sF21, KYp_sF21, PPp_sF21, WFp_sF21, CCp_sF21]); (all_goals (repeat' (first | with_reducible intro _ | with_reducible apply And.intro))); all_goals (first | assumption | trivial | ((with_reducible refine Im.i fun hf_ => ?_); first | exact ((fun _ => RG.rf) hf_) | exact ok1.i | (exact LI.z (fun h => absurd h (by decide))) | (exact absurd hf_ (by omega)) | omega) | omega | (have zz_ := fz_z (by assumption); omega) | (split <;> omega) | (exact hp_6.1) | (exact rNM_sF0 hp_6.1 (rNMp.to (by assumption) (by assumption))) | (exact rNMp.to (by assumption) (by simp only [*])) | (exact rNMp.of (by assumption) (by simp only [*]) hp_6.1) | grind (splits := 20) [Im])), ?_⟩
        refine ⟨fun c72 => ?_, fun c72 => ?_⟩
        · refine ⟨fun c88 => ?_, fun c88 => ?_⟩
          · have z88 := fz_z c88
            refine ⟨(by (try simp only [pre_X13_name, reduceIte, and_true, true_and, and_false, false_and, and_self, Nat.reduceEqDiff, fz_sF21, rF_sF, rA_sF, rR_sF, tr_sF, rNMp_sF, PNp_sF, GS_F21, OP_F21, NR_F21, LI_F21, RG_l21, RG_r21, TPRp_sF21, WNp_sF21, VMp_sF21, KYp_sF21, PPp_sF21, WFp_sF21, CCp_sF21]); (all_goals (repeat' (first | with_reducible intro _ | with_reducible apply And.intro))); all_goals (first | assumption | trivial | ((with_reducible refine Im.i fun hf_ => ?_); first | exact ((fun _ => RG.rf) hf_) | exact ok1.i | (exact LI.z (fun h => absurd h (by decide))) | (exact absurd hf_ (by omega)) | omega) | omega | (have zz_ := fz_z (by assumption); omega) | (split <;> omega) | (exact hp_6.1) | (exact rNM_sF0 hp_6.1 (rNMp.to (by assumption) (by assumption))) | (exact rNMp.to (by assumption) (by simp only [*])) | (exact rNMp.of (by assumption) (by simp only [*]) hp_6.1) | grind (splits := 20) [Im])), ?_⟩
            intro v111 s111 hv111 Ws111 e111_0 e111_1 e111_2 e111_3 e111_4 e111_5 e111_6 q111
            unfold rng at hv111
            unfold post_X13_name at q111
            obtain ⟨q111_1, q111_2, q111_3, q111_4, q111_5, q111_6, q111_7⟩ := q111
            (try simp only [reduceIte, and_true, true_and, and_false, false_and, and_self, Nat.reduceEqDiff, fz_sF21, rF_sF, rA_sF, rR_sF, tr_sF, rNMp_sF, PNp_sF, GS_F21, OP_F21, NR_F21, LI_F21, RG_l21, RG_r21, TPRp_sF21, WNp_sF21, VMp_sF21, KYp_sF21, PPp_sF21, WFp_sF21, CCp_sF21] at q111_1 q111_2 q111_3 q111_4 q111_5 q111_6 q111_7 e111_0 e111_1 e111_2 e111_3 e111_4 e111_5 e111_6)
            have zr111 := fz_rng s111
            exact (by (try simp only [post_X14_fileName_f, reduceIte, and_true, true_and, and_false, false_and, and_self, Nat.reduceEqDiff, fz_sF17, rF_sF, rA_sF, rR_sF, tr_sF, rNMp_sF, PNp_sF, GS_F17, OP_F17, NR_F17, LI_F17, RG_l17, RG_r17, TPRp_sF17, WNp_sF17, VMp_sF17, KYp_sF17, PPp_sF17, WFp_sF17, CCp_sF17]); (all_goals (repeat' (first | with_reducible intro _ | with_reducible apply And.intro))); all_goals (first | assumption | trivial | ((with_reducible refine Im.i fun hf_ => ?_); first | exact ((fun _ => RG.rf) hf_) | exact ok1.i | (exact LI.z (fun h => absurd h (by decide))) | (exact absurd hf_ (by omega)) | omega) | omega | (have zz_ := fz_z (by assumption); omega) | (split <;> omega) | (exact hp_6.1) | (exact rNM_sF0 hp_6.1 (rNMp.to (by assumption) (by assumption))) | (exact rNMp.to (by assumption) (by simp only [*])) | (exact rNMp.of (by assumption) (by simp only [*]) hp_6.1) | grind (splits := 20) [Im]))
          · have z88 := fz_n c88
            exact (by (try simp only [post_X14_fileName_f, reduceIte, and_true, true_and, and_false, false_and, and_self, Nat.reduceEqDiff, fz_sF21, rF_sF, rA_sF, rR_sF, tr_sF, rNMp_sF, PNp_sF, GS_F21, OP_F21, NR_F21, LI_F21, RG_l21, RG_r21, TPRp_sF21, WNp_sF21, VMp_sF21, KYp_sF21, PPp_sF21, WFp_sF21, CCp_sF21]); (all_goals (repeat' (first | with_reducible intro _ | with_reducible apply And.intro))); all_goals (first | assumption | trivial | ((with_reducible refine Im.i fun hf_ => ?_); first | exact ((fun _ => RG.rf) hf_) | exact ok1.i | (exact LI.z (fun h => absurd h (by decide))) | (exact absurd hf_ (by omega)) | omega) | omega | (have zz_ := fz_z (by assumption); omega) | (split <;> omega) | (exact hp_6.1) | (exact rNM_sF0 hp_6.1 (rNMp.to (by assumption) (by assumption))) | (exact rNMp.to (by assumption) (by simp only [*])) | (exact rNMp.of (by assumption) (by simp only [*]) hp_6.1) | grind (splits := 20) [Im]))
        · refine ⟨(by (try simp only [pre_X14_bad, reduceIte, and_true, true_and, and_false, false_and, and_self, Nat.reduceEqDiff, fz_sF21, rF_sF, rA_sF, rR_sF, tr_sF, rNMp_sF, PNp_sF, GS_F21, OP_F21, NR_F21, LI_F21, RG_l21, RG_r21, TPRp_sF21, WNp_sF21, VMp_sF21, KYp_sF21, PPp_sF21, WFp_sF21, CCp_sF21]); (all_goals (repeat' (first | with_reducible intro _ | with_reducible apply And.intro))); all_goals (first | assumption | trivial | ((with_reducible refine Im.i fun hf_ => ?_); first | exact ((fun _ => RG.rf) hf_) | exact ok1.i | (exact LI.z (fun h => absurd h (by decide))) | (exact absurd hf_ (by omega)) | omega) | omega | (have zz_ := fz_z (by assumption); omega) | (split <;> omega) | (exact hp_6.1) | (exact rNM_sF0 hp_6.1 (rNMp.to (by assumption) (by assumption))) | (exact rNMp.to (by assumption) (by simp only [*])) | (exact rNMp.of (by assumption) (by simp only [*]) hp_6.1) | grind (splits := 20) [Im])), ?_⟩
          intro s81 Ws81 e81_0 e81_1 e81_2 e81_3 e81_4 e81_5 e81_6 e81_7 e81_8 e81_9 q81
          have q81 := dig_bad q81 (by (try simp only [reduceIte, and_true, true_and, and_false, false_and, and_self, Nat.reduceEqDiff, fz_sF21, rF_sF, rA_sF, rR_sF, tr_sF, rNMp_sF, PNp_sF, GS_F21, OP_F21, NR_F21, LI_F21, RG_l21, RG_r21, TPRp_sF21, WNp_sF21, VMp_sF21, KYp_sF21, PPp_sF21, WFp_sF21, CCp_sF21]); omega)
          obtain ⟨q81_1, q81_2⟩ := q81
          (try simp only [reduceIte, and_true, true_and, and_false, false_and, and_self, Nat.reduceEqDiff, fz_sF21, rF_sF, rA_sF, rR_sF, tr_sF, rNMp_sF, PNp_sF, GS_F21, OP_F21, NR_F21, LI_F21, RG_l21, RG_r21, TPRp_sF21, WNp_sF21, VMp_sF21, KYp_sF21, PPp_sF21, WFp_sF21, CCp_sF21] at q81_1 q81_2 e81_0 e81_1 e81_2 e81_3 e81_4 e81_5 e81_6 e81_7 e81_8 e81_9)
          have zr81 := fz_rng s81
          have rNMp_81 := e81_0 rNMp_1; clear e81_0
          intro hr_; unfold rng at hr_
          refine ⟨fun c88 => ?_, fun c88 => ?_⟩
          · have z88 := fz_z c88
            refine ⟨(by (try simp only [pre_X13_name]); (all_goals (repeat' (first | with_reducible intro _ | with_reducible apply And.intro))); all_goals (first | assumption | trivial | ((with_reducible refine Im.i fun hf_ => ?_); first | exact ((fun _ => RG.rf) hf_) | exact ok1.i | (exact LI.z (fun h => absurd h (by decide))) | (exact absurd hf_ (by omega)) | omega) | omega | (have zz_ := fz_z (by assumption); omega) | (split <;> omega) | (exact hp_6.1) | (exact rNM_sF0 hp_6.1 (rNMp.to (by assumption) (by assumption))) | (exact rNMp.to (by assumption) (by simp only [*])) | (exact rNMp.of (by assumption) (by simp only [*]) hp_6.1) | grind (splits := 20) [Im])), ?_⟩
            intro v111 s111 hv111 Ws111 e111_0 e111_1 e111_2 e111_3 e111_4 e111_5 e111_6 q111
            unfold rng at hv111
            unfold post_X13_name at q111
            obtain ⟨q111_1, q111_2, q111_3, q111_4, q111_5, q111_6, q111_7⟩ := q111
            have zr111 := fz_rng s111
            exact (by (try simp only [post_X14_fileName_f, reduceIte, and_true, true_and, and_false, false_and, and_self, Nat.reduceEqDiff, fz_sF17, rF_sF, rA_sF, rR_sF, tr_sF, rNMp_sF, PNp_sF, GS_F17, OP_F17, NR_F17, LI_F17, RG_l17, RG_r17, TPRp_sF17, WNp_sF17, VMp_sF17, KYp_sF17, PPp_sF17, WFp_sF17, CCp_sF17]); (all_goals (repeat' (first | with_reducible intro _ | with_reducible apply And.intro))); all_goals (first | assumption | trivial | ((with_reducible refine Im.i fun hf_ => ?_); first | exact ((fun _ => RG.rf) hf_) | exact ok1.i | (exact LI.z (fun h => absurd h (by decide))) | (exact absurd hf_ (by omega)) | omega) | omega | (have zz_ := fz_z (by assumption); omega) | (split <;> omega) | (exact hp_6.1) | (exact rNM_sF0 hp_6.1 (rNMp.to (by assumption) (by assumption))) | (exact rNMp.to (by assumption) (by simp only [*])) | (exact rNMp.of (by assumption) (by simp only [*]) hp_6.1) | grind (splits := 20) [Im]))
          · have z88 := fz_n c88
            exact (by (try simp only [post_X14_fileName_f]); (all_goals (repeat' (first | with_reducible intro _ | with_reducible apply And.intro))); all_goals (first | assumption | trivial | ((with_reducible refine Im.i fun hf_ => ?_); first | exact ((fun _ => RG.rf) hf_) | exact ok1.i | (exact LI.z (fun h => absurd h (by decide))) | (exact absurd hf_ (by omega)) | omega) | omega | (have zz_ := fz_z (by assumption); omega) | (split <;> omega) | (exact hp_6.1) | (exact rNM_sF0 hp_6.1 (rNMp.to (by assumption) (by assumption))) | (exact rNMp.to (by assumption) (by simp only [*])) | (exact rNMp.of (by assumption) (by simp only [*]) hp_6.1) | grind (splits := 20) [Im]))
      · refine ⟨(by (try simp only [pre_X14_bad, reduceIte, and_true, true_and, and_false, false_and, and_self, Nat.reduceEqDiff, fz_sF21, rF_sF, rA_sF, rR_sF, tr_sF, rNMp_sF, PNp_sF, GS_F21, OP_F21, NR_F21, LI_F21, RG_l21, RG_r21, TPRp_sF21, WNp_sF21, VMp_sF21, KYp_sF21, PPp_sF21, WFp_sF21, CCp_sF21]); (all_goals (repeat' (first | with_reducible intro _ | with_reducible apply And.intro))); all_goals (first | assumption | trivial | ((with_reducible refine Im.i fun hf_ => ?_); first | exact ((fun _ => RG.rf) hf_) | exact ok1.i | (exact LI.z (fun h => absurd h (by decide))) | (exact absurd hf_ (by omega)) | omega) | omega | (have zz_ := fz_z (by assumption); omega) | (split <;> omega) | (exact hp_6.1) | (exact rNM_sF0 hp_6.1 (rNMp.to (by assumption) (by assumption))) | (exact rNMp.to (by assumption) (by simp only [*])) | (exact rNMp.of (by assumption) (by simp only [*]) hp_6.1) | grind (splits := 20) [Im])), ?_⟩
        intro s58 Ws58 e58_0 e58_1 e58_2 e58_3 e58_4 e58_5 e58_6 e58_7 e58_8 e58_9 q58
        have q58 := dig_bad q58 (by (try simp only [reduceIte, and_true, true_and, and_false, false_and, and_self, Nat.reduceEqDiff, fz_sF21, rF_sF, rA_sF, rR_sF, tr_sF, rNMp_sF, PNp_sF, GS_F21, OP_F21, NR_F21, LI_F21, RG_l21, RG_r21, TPRp_sF21, WNp_sF21, VMp_sF21, KYp_sF21, PPp_sF21, WFp_sF21, CCp_sF21]); omega)
        obtain ⟨q58_1, q58_2⟩ := q58
        (try simp only [reduceIte, and_true, true_and, and_false, false_and, and_self, Nat.reduceEqDiff, fz_sF21, rF_sF, rA_sF, rR_sF, tr_sF, rNMp_sF, PNp_sF, GS_F21, OP_F21, NR_F21, LI_F21, RG_l21, RG_r21, TPRp_sF21, WNp_sF21, VMp_sF21, KYp_sF21, PPp_sF21, WFp_sF21, CCp_sF21] at q58_1 q58_2 e58_0 e58_1 e58_2 e58_3 e58_4 e58_5 e58_6 e58_7 e58_8 e58_9)
        have zr58 := fz_rng s58
        have rNMp_58 := e58_0 rNMp_1; clear e58_0
        intro hr_; unfold rng at hr_
        refine ⟨fun c88 => ?_, fun c88 => ?_⟩
        · have z88 := fz_z c88
          refine ⟨(by (try simp only [rng]); (all_goals (repeat' (first | with_reducible intro _ | with_reducible apply And.intro))); all_goals (first | assumption | trivial | ((with_reducible refine Im.i fun hf_ => ?_); first | exact ((fun _ => RG.rf) hf_) | exact ok1.i | (exact LI.z (fun h => absurd h (by decide))) | (exact absurd hf_ (by omega)) | omega) | omega | (have zz_ := fz_z (by assumption); omega) | (split <;> omega) | (exact hp_6.1) | (exact rNM_sF0 hp_6.1 (rNMp.to (by assumption) (by assumption))) | (exact rNMp.to (by assumption) (by simp only [*])) | (exact rNMp.of (by assumption) (by simp only [*]) hp_6.1) | grind (splits := 20) [Im])), ?_⟩
          refine ⟨(by (try simp only [pre_X13_name]); (all_goals (repeat' (first | with_reducible intro _ | with_reducible apply And.intro))); all_goals (first | assumption | trivial | ((with_reducible refine Im.i fun hf_ => ?_); first | exact ((fun _ => RG.rf) hf_) | exact ok1.i | (exact LI.z (fun h => absurd h (by decide))) | (exact absurd hf_ (by omega)) | omega) | omega | (have zz_ := fz_z (by assumption); omega) | (split <;> omega) | (exact hp_6.1) | (exact rNM_sF0 hp_6.1 (rNMp.to (by assumption) (by assumption))) | (exact rNMp.to (by assumption) (by simp only [*])) | (exact rNMp.of (by assumption) (by simp only [*]) hp_6.1) | grind (splits := 20) [Im])), ?_⟩
          intro v111 s111 hv111 Ws111 e111_0 e111_1 e111_2 e111_3 e111_4 e111_5 e111_6 q111
          unfold rng at hv111
          unfold post_X13_name at q111
          obtain ⟨q111_1, q111_2, q111_3, q111_4, q111_5, q111_6, q111_7⟩ := q111
          have zr111 := fz_rng s111
          exact (by (try simp only [post_X14_fileName_f, reduceIte, and_true, true_and, and_false, false_and, and_self, Nat.reduceEqDiff, fz_sF17, rF_sF, rA_sF, rR_sF, tr_sF, rNMp_sF, PNp_sF, GS_F17, OP_F17, NR_F17, LI_F17, RG_l17, RG_r17, TPRp_sF17, WNp_sF17, VMp_sF17, KYp_sF17, PPp_sF17, WFp_sF17, CCp_sF17]); (all_goals (repeat' (first | with_reducible intro _ | with_reducible apply And.intro))); all_goals (first | assumption | trivial | ((with_reducible refine Im.i fun hf_ => ?_); first | exact ((fun _ => RG.rf) hf_) | exact ok1.i | (exact LI.z (fun h => absurd h (by decide))) | (exact absurd hf_ (by omega)) | omega) | omega | (have zz_ := fz_z (by assumption); omega) | (split <;> omega) | (exact hp_6.1) | (exact rNM_sF0 hp_6.1 (rNMp.to (by assumption) (by assumption))) | (exact rNMp.to (by assumption) (by simp only [*])) | (exact rNMp.of (by assumption) (by simp only [*]) hp_6.1) | grind (splits := 20) [Im]))
        · have z88 := fz_n c88
          exact (by (try simp only [post_X14_fileName_f]); (all_goals (repeat' (first | with_reducible intro _ | with_reducible apply And.intro))); all_goals (first | assumption | trivial | ((with_reducible refine Im.i fun hf_ => ?_); first | exact ((fun _ => RG.rf) hf_) | exact ok1.i | (exact LI.z (fun h => absurd h (by decide))) | (exact absurd hf_ (by omega)) | omega) | omega | (have zz_ := fz_z (by assumption); omega) | (split <;> omega) | (exact hp_6.1) | (exact rNM_sF0 hp_6.1 (rNMp.to (by assumption) (by assumption))) | (exact rNMp.to (by assumption) (by simp only [*])) | (exact rNMp.of (by assumption) (by simp only [*]) hp_6.1) | grind (splits := 20) [Im]))
  · have z8 := fz_n c8
    exact (by (try simp only [post_X14_fileName_f]); (all_goals (repeat' (first | with_reducible intro _ | with_reducible apply And.intro))); all_goals (first | assumption | trivial | ((with_reducible refine Im.i fun hf_ => ?_); first | exact ((fun _ => RG.rf) hf_) | exact ok1.i | (exact LI.z (fun h => absurd h (by decide))) | (exact absurd hf_ (by omega)) | omega) | omega | (have zz_ := fz_z (by assumption); omega) | (split <;> omega) | (exact hp_6.1) | (exact rNM_sF0 hp_6.1 (rNMp.to (by assumption) (by assumption))) | (exact rNMp.to (by assumption) (by simp only [*])) | (exact rNMp.of (by assumption) (by simp only [*]) hp_6.1) | grind (splits := 20) [Im]))
theorem wX14_fileName_f (l : Launch) (G : zG) (κ : Nat → Nat) (σ : rS) (hwf : rWF σ) (Q : Int → rS → Prop) (h : VC_X14_fileName_f σ Q) : rMi l G κ yX14_fileName cX14_fileName 3 .int 7 187 [.ref (κ 0)] σ (fun x s => rKeep 0x221c00 0x1200 0 0xd00 0 σ s ∧ Q x s) := by
  refine zMi.intro (by decide +kernel) (Nat.le_of_ble_eq_true rfl) (fun X hC hR => ?_)
  obtain ⟨g0, h⟩ := h
  refine z_aload_n hC (pc := 0) 0 dX14_fileName_0 rfl rfl ?_
  obtain ⟨p10, h⟩ := h
  refine y_callVv hC (pc := 1) (As := []) (kX14_skip l G κ σ  hwf  p10) dmX14_skip zf14 rOb_0 dX14_fileName_1 zw2985 rfl rfl (Nat.le_of_ble_eq_true rfl) (Nat.le_of_ble_eq_true rfl) (Nat.le_of_ble_eq_true rfl) (Nat.le_of_ble_eq_true rfl) (Nat.le_of_ble_eq_true rfl) (kk := fun s1 Ws1 qs1 => ?_)
  have h := h s1 Ws1 (rNMp.keep qs1.1 rfl rfl rfl rfl rfl) (qs1.1.R rfl) (qs1.1.R rfl) (qs1.1.F rfl) (qs1.1.F rfl) (qs1.1.FG g0 rfl) (qs1.1.FG g0 rfl) (fun i => qs1.1.AG (f := 10) g0 (by decide) rfl) (fun i => qs1.1.AG (f := 11) g0 (by decide) rfl) qs1.2
  refine z_aload_n hC (pc := 4) 0 dX14_fileName_4 rfl rfl ?_
  refine y_get hC (pc := 5) zf14 rOb_0 10 (v := iv (rF s1 0 10)) dX14_fileName_5 zw2478 (rv_i (Or.inl rfl) rfl) (kk := ?_)
  have h := h (Ws1.f _ _)
  obtain ⟨hT, hF⟩ := h
  refine y_if_eq hC (pc := 8) 13 (Ws1.f _ _) dX14_fileName_8 (by decide) (fun c => ?_) (fun c => ?_)
  · have h := hT c
    refine z_aload_n hC (pc := 13) 0 dX14_fileName_13 rfl rfl ?_
    obtain ⟨g11, h⟩ := h
    refine y_get hC (pc := 14) zf14 rOb_0 15 (v := .ref (κ (rR σ 15))) dX14_fileName_14 zw2482 (rv_b rfl ((qs1.1.R rfl).trans rfl) g11) (kk := ?_)
    refine z_aload_n hC (pc := 17) 0 dX14_fileName_17 rfl rfl ?_
    refine y_get hC (pc := 18) zf14 rOb_0 16 (v := iv (rF s1 0 16)) dX14_fileName_18 zw2483 (rv_i (Or.inl rfl) rfl) (kk := ?_)
    have h := h (Ws1.f _ _)
    refine z_aload_n hC (pc := 21) 0 dX14_fileName_21 rfl rfl ?_
    refine y_get hC (pc := 22) zf14 rOb_0 17 (v := iv (rF s1 0 17)) dX14_fileName_22 zw2484 (rv_i (Or.inl rfl) rfl) (kk := ?_)
    have h := h (Ws1.f _ _)
    obtain ⟨p12, h⟩ := h
    refine y_callSi hC (pc := 25) (As := [.ref (κ (rR σ 15)), iv (rF s1 0 16), iv (rF s1 0 17)]) (kX14_wordEnd l G κ s1 (rR σ 15) 4000 (rF s1 0 16) (rF s1 0 17) Ws1 (rAr_f g11) (Ws1.f _ _) (Ws1.f _ _) p12) dmX14_wordEnd dX14_fileName_25 zw3009 rfl rfl (Nat.le_of_ble_eq_true rfl) (Nat.le_of_ble_eq_true rfl) (Nat.le_of_ble_eq_true rfl) (Nat.le_of_ble_eq_true rfl) (Nat.le_of_ble_eq_true rfl) (kk := fun v25 s25 hv25 Ws25 qs25 => ?_)
    obtain ⟨es25, qs25⟩ := qs25
    have es25 := es25.symm
    subst es25
    have h := h v25 hv25 qs25
    refine z_istore_n hC (pc := 28) (lv' := [(1, iv v25), (0, .ref (κ 0))]) dX14_fileName_28 rfl (by decide) rfl ?_
    refine z_aload_n hC (pc := 29) 1 dX14_fileName_29 rfl rfl ?_
    refine z_aload_n hC (pc := 30) 1 dX14_fileName_30 rfl rfl ?_
    refine y_get hC (pc := 31) zf14 rOb_0 17 (v := iv (rF s1 0 17)) dX14_fileName_31 zw2484 (rv_i (Or.inl rfl) rfl) (kk := ?_)
    refine y_putI hC (pc := 34) zf14 rOb_0 21 (x := (rF s1 0 17)) dX14_fileName_34 zw2488 (Or.inl rfl) rfl rfl (kk := ?_)
    have W13 := Ws1.sF (q := 0) (f := 21) (x := (rF s1 0 17)) (Ws1.f _ _)
    refine z_iload_n hC (pc := 37) 0 dX14_fileName_37 rfl rfl ?_
    refine z_aload_n hC (pc := 38) 1 dX14_fileName_38 rfl rfl ?_
    refine y_get hC (pc := 39) zf14 rOb_0 17 (v := iv (rF s1 0 17)) dX14_fileName_39 zw2484 (rv_i (Or.inl rfl) ((F_sF_ne (by decide)).trans rfl)) (kk := ?_)
    obtain ⟨hT, hF⟩ := h
    refine y_icmp_eq hC (pc := 42) 52 hv25 (Ws1.f _ _) dX14_fileName_42 (by decide) (fun c => ?_) (fun c => ?_)
    · have h := hT c
      refine z_aload_n hC (pc := 52) 1 dX14_fileName_52 rfl rfl ?_
      refine z_iconst hC (pc := 53) (v := Int32.ofInt 1) dX14_fileName_53 (by decide) ?_
      refine z_aload_n hC (pc := 54) 1 dX14_fileName_54 rfl rfl ?_
      refine y_get hC (pc := 55) zf14 rOb_0 17 (v := iv (rF s1 0 17)) dX14_fileName_55 zw2484 (rv_i (Or.inl rfl) ((F_sF_ne (by decide)).trans rfl)) (kk := ?_)
      obtain ⟨p14, h⟩ := h
      refine y_callVv hC (pc := 58) (As := [iv 1, iv (rF s1 0 17)]) (kX14_bad l G κ (sF s1 0 21 (rF s1 0 17)) 1 (rF s1 0 17) W13 (r_lit rfl) (Ws1.f _ _) p14) dmX14_bad zf14 rOb_0 dX14_fileName_58 zw3000 rfl rfl (Nat.le_of_ble_eq_true rfl) (Nat.le_of_ble_eq_true rfl) (Nat.le_of_ble_eq_true rfl) (Nat.le_of_ble_eq_true rfl) (Nat.le_of_ble_eq_true rfl) (kk := fun s58 Ws58 qs58 => ?_)
      have h := h s58 Ws58 (rNMp.keep qs58.1 rfl rfl rfl rfl rfl) (qs58.1.R rfl) (qs58.1.R rfl) (qs58.1.F rfl) (qs58.1.F rfl) (qs58.1.F rfl) (qs58.1.FG g0 rfl) (qs58.1.FG g0 rfl) (fun i => qs58.1.AG (f := 10) g0 (by decide) rfl) (fun i => qs58.1.AG (f := 11) g0 (by decide) rfl) qs58.2
      refine z_goto hC (pc := 61) 84 dX14_fileName_61 (by decide) ?_
      refine z_aload_n hC (pc := 84) 1 dX14_fileName_84 rfl rfl ?_
      refine y_get hC (pc := 85) zf14 rOb_0 10 (v := iv (rF s58 0 10)) dX14_fileName_85 zw2478 (rv_i (Or.inl rfl) rfl) (kk := ?_)
      have h := h (Ws58.f _ _)
      obtain ⟨hT, hF⟩ := h
      refine y_if_eq hC (pc := 88) 93 (Ws58.f _ _) dX14_fileName_88 (by decide) (fun c => ?_) (fun c => ?_)
      · have h := hT c
        refine z_aload_n hC (pc := 93) 1 dX14_fileName_93 rfl rfl ?_
        refine y_get hC (pc := 94) zf14 rOb_0 7 (v := .ref (κ (rR σ 7))) dX14_fileName_94 zw2475 (rv_g rfl ((qs58.1.R rfl).trans ((qs1.1.R rfl).trans rfl)) g0) (kk := ?_)
        refine z_aload_n hC (pc := 97) 1 dX14_fileName_97 rfl rfl ?_
        refine y_get hC (pc := 98) zf14 rOb_0 15 (v := .ref (κ (rR σ 15))) dX14_fileName_98 zw2482 (rv_b rfl ((qs58.1.R rfl).trans ((qs1.1.R rfl).trans rfl)) g11) (kk := ?_)
        refine z_aload_n hC (pc := 101) 1 dX14_fileName_101 rfl rfl ?_
        refine y_get hC (pc := 102) zf14 rOb_0 17 (v := iv (rF s1 0 17)) dX14_fileName_102 zw2484 (rv_i (Or.inl rfl) ((qs58.1.F rfl).trans ((F_sF_ne (by decide)).trans rfl))) (kk := ?_)
        refine z_iload_n hC (pc := 105) 0 dX14_fileName_105 rfl rfl ?_
        refine z_aload_n hC (pc := 106) 1 dX14_fileName_106 rfl rfl ?_
        refine y_get hC (pc := 107) zf14 rOb_0 17 (v := iv (rF s1 0 17)) dX14_fileName_107 zw2484 (rv_i (Or.inl rfl) ((qs58.1.F rfl).trans ((F_sF_ne (by decide)).trans rfl))) (kk := ?_)
        refine y_isub hC (pc := 110) (v := (v25 - (rF s1 0 17))) dX14_fileName_110 rfl ?_
        obtain ⟨r15, h⟩ := h
        obtain ⟨p16, h⟩ := h
        refine y_callVi hC (pc := 111) (As := [.ref (κ (rR σ 15)), iv (rF s1 0 17), iv (v25 - (rF s1 0 17))]) (kX13_name l G κ s58 (rR σ 7) (rR σ 15) 4000 (rF s1 0 17) (v25 - (rF s1 0 17)) Ws58 g0 (rAr_f g11) (Ws1.f _ _) r15 p16) dmX13_name zf13 (rOb_k g0) dX14_fileName_111 zw3063 rfl rfl (Nat.le_of_ble_eq_true rfl) (Nat.le_of_ble_eq_true rfl) (Nat.le_of_ble_eq_true rfl) (Nat.le_of_ble_eq_true rfl) (Nat.le_of_ble_eq_true rfl) (kk := fun v111 s111 hv111 Ws111 qs111 => ?_)
        have h := h v111 s111 hv111 Ws111 (qs111.1.R rfl) (qs111.1.R rfl) (qs111.1.F rfl) (qs111.1.F rfl) (qs111.1.F rfl) (qs111.1.F rfl) (fz_keep qs111.1 rfl) qs111.2
        refine z_istore_n hC (pc := 114) (lv' := [(2, iv v111), (1, iv v25), (0, .ref (κ 0))]) dX14_fileName_114 rfl (by decide) rfl ?_
        refine z_aload_n hC (pc := 115) 2 dX14_fileName_115 rfl rfl ?_
        refine z_iload_n hC (pc := 116) 1 dX14_fileName_116 rfl rfl ?_
        refine y_putI hC (pc := 117) zf14 rOb_0 17 (x := v25) dX14_fileName_117 zw2484 (Or.inl rfl) rfl rfl (kk := ?_)
        have W17 := Ws111.sF (q := 0) (f := 17) (x := v25) hv25
        refine z_iload_n hC (pc := 120) 0 dX14_fileName_120 rfl rfl ?_
        exact y_reti hR dX14_fileName_121 rfl hv111 W17 (Nat.le_of_ble_eq_true rfl) (Nat.le_of_ble_eq_true rfl) ⟨(rKeep.tr (rKeep.tr (rKeep.tr (rKeep.tr (rKeep.tr rKeep.rf qs1.1 rfl rfl rfl rfl rfl) (rKeep.sF0 (f := 21)) rfl rfl rfl rfl rfl) qs58.1 rfl rfl rfl rfl rfl) qs111.1 rfl rfl rfl rfl rfl) (rKeep.sF0 (f := 17)) rfl rfl rfl rfl rfl), h⟩
      · have h := hF c
        refine z_iconst hC (pc := 91) (v := Int32.ofInt 0) dX14_fileName_91 (by decide) ?_
        exact y_reti hR dX14_fileName_92 rfl (r_lit rfl) Ws58 (Nat.le_of_ble_eq_true rfl) (Nat.le_of_ble_eq_true rfl) ⟨(rKeep.tr (rKeep.tr (rKeep.tr rKeep.rf qs1.1 rfl rfl rfl rfl rfl) (rKeep.sF0 (f := 21)) rfl rfl rfl rfl rfl) qs58.1 rfl rfl rfl rfl rfl), h⟩
    · have h := hF c
      refine z_aload_n hC (pc := 45) 1 dX14_fileName_45 rfl rfl ?_
      obtain ⟨p18, h⟩ := h
      refine y_callVi hC (pc := 46) (As := []) (kX14_isFileReserved l G κ (sF s1 0 21 (rF s1 0 17))  W13  p18) dmX14_isFileReserved zf14 rOb_0 dX14_fileName_46 zw3055 rfl rfl (Nat.le_of_ble_eq_true rfl) (Nat.le_of_ble_eq_true rfl) (Nat.le_of_ble_eq_true rfl) (Nat.le_of_ble_eq_true rfl) (Nat.le_of_ble_eq_true rfl) (kk := fun v46 s46 hv46 Ws46 qs46 => ?_)
      obtain ⟨es46, qs46⟩ := qs46
      have es46 := es46.symm
      subst es46
      have h := h v46 hv46 qs46
      obtain ⟨hT, hF⟩ := h
      refine y_if_eq hC (pc := 49) 64 hv46 dX14_fileName_49 (by decide) (fun c => ?_) (fun c => ?_)
      · have h := hT c
        refine z_iload_n hC (pc := 64) 0 dX14_fileName_64 rfl rfl ?_
        refine z_aload_n hC (pc := 65) 1 dX14_fileName_65 rfl rfl ?_
        refine y_get hC (pc := 66) zf14 rOb_0 17 (v := iv (rF s1 0 17)) dX14_fileName_66 zw2484 (rv_i (Or.inl rfl) ((F_sF_ne (by decide)).trans rfl)) (kk := ?_)
        refine y_isub hC (pc := 69) (v := (v25 - (rF s1 0 17))) dX14_fileName_69 rfl ?_
        refine z_bipush hC (pc := 70) (v := Int32.ofInt 16) dX14_fileName_70 (by decide) ?_
        obtain ⟨r19, h⟩ := h
        obtain ⟨hT, hF⟩ := h
        refine y_icmp_le hC (pc := 72) 84 r19 (r_lit rfl) dX14_fileName_72 (by decide) (fun c => ?_) (fun c => ?_)
        · have h := hT c
          refine z_aload_n hC (pc := 84) 1 dX14_fileName_84 rfl rfl ?_
          refine y_get hC (pc := 85) zf14 rOb_0 10 (v := iv (rF s1 0 10)) dX14_fileName_85 zw2478 (rv_i (Or.inl rfl) ((F_sF_ne (by decide)).trans rfl)) (kk := ?_)
          obtain ⟨hT, hF⟩ := h
          refine y_if_eq hC (pc := 88) 93 (Ws1.f _ _) dX14_fileName_88 (by decide) (fun c => ?_) (fun c => ?_)
          · have h := hT c
            refine z_aload_n hC (pc := 93) 1 dX14_fileName_93 rfl rfl ?_
            refine y_get hC (pc := 94) zf14 rOb_0 7 (v := .ref (κ (rR σ 7))) dX14_fileName_94 zw2475 (rv_g rfl ((qs1.1.R rfl).trans rfl) g0) (kk := ?_)
            refine z_aload_n hC (pc := 97) 1 dX14_fileName_97 rfl rfl ?_
            refine y_get hC (pc := 98) zf14 rOb_0 15 (v := .ref (κ (rR σ 15))) dX14_fileName_98 zw2482 (rv_b rfl ((qs1.1.R rfl).trans rfl) g11) (kk := ?_)
            refine z_aload_n hC (pc := 101) 1 dX14_fileName_101 rfl rfl ?_
            refine y_get hC (pc := 102) zf14 rOb_0 17 (v := iv (rF s1 0 17)) dX14_fileName_102 zw2484 (rv_i (Or.inl rfl) ((F_sF_ne (by decide)).trans rfl)) (kk := ?_)
            refine z_iload_n hC (pc := 105) 0 dX14_fileName_105 rfl rfl ?_
            refine z_aload_n hC (pc := 106) 1 dX14_fileName_106 rfl rfl ?_
            refine y_get hC (pc := 107) zf14 rOb_0 17 (v := iv (rF s1 0 17)) dX14_fileName_107 zw2484 (rv_i (Or.inl rfl) ((F_sF_ne (by decide)).trans rfl)) (kk := ?_)
            refine y_isub hC (pc := 110) (v := (v25 - (rF s1 0 17))) dX14_fileName_110 rfl ?_
            obtain ⟨p20, h⟩ := h
            refine y_callVi hC (pc := 111) (As := [.ref (κ (rR σ 15)), iv (rF s1 0 17), iv (v25 - (rF s1 0 17))]) (kX13_name l G κ (sF s1 0 21 (rF s1 0 17)) (rR σ 7) (rR σ 15) 4000 (rF s1 0 17) (v25 - (rF s1 0 17)) W13 g0 (rAr_f g11) (Ws1.f _ _) r19 p20) dmX13_name zf13 (rOb_k g0) dX14_fileName_111 zw3063 rfl rfl (Nat.le_of_ble_eq_true rfl) (Nat.le_of_ble_eq_true rfl) (Nat.le_of_ble_eq_true rfl) (Nat.le_of_ble_eq_true rfl) (Nat.le_of_ble_eq_true rfl) (kk := fun v111 s111 hv111 Ws111 qs111 => ?_)
            have h := h v111 s111 hv111 Ws111 (qs111.1.R rfl) (qs111.1.R rfl) (qs111.1.F rfl) (qs111.1.F rfl) (qs111.1.F rfl) (qs111.1.F rfl) (fz_keep qs111.1 rfl) qs111.2
            refine z_istore_n hC (pc := 114) (lv' := [(2, iv v111), (1, iv v25), (0, .ref (κ 0))]) dX14_fileName_114 rfl (by decide) rfl ?_
            refine z_aload_n hC (pc := 115) 2 dX14_fileName_115 rfl rfl ?_
            refine z_iload_n hC (pc := 116) 1 dX14_fileName_116 rfl rfl ?_
            refine y_putI hC (pc := 117) zf14 rOb_0 17 (x := v25) dX14_fileName_117 zw2484 (Or.inl rfl) rfl rfl (kk := ?_)
            have W21 := Ws111.sF (q := 0) (f := 17) (x := v25) hv25
            refine z_iload_n hC (pc := 120) 0 dX14_fileName_120 rfl rfl ?_
            exact y_reti hR dX14_fileName_121 rfl hv111 W21 (Nat.le_of_ble_eq_true rfl) (Nat.le_of_ble_eq_true rfl) ⟨(rKeep.tr (rKeep.tr (rKeep.tr (rKeep.tr rKeep.rf qs1.1 rfl rfl rfl rfl rfl) (rKeep.sF0 (f := 21)) rfl rfl rfl rfl rfl) qs111.1 rfl rfl rfl rfl rfl) (rKeep.sF0 (f := 17)) rfl rfl rfl rfl rfl), h⟩
          · have h := hF c
            refine z_iconst hC (pc := 91) (v := Int32.ofInt 0) dX14_fileName_91 (by decide) ?_
            exact y_reti hR dX14_fileName_92 rfl (r_lit rfl) W13 (Nat.le_of_ble_eq_true rfl) (Nat.le_of_ble_eq_true rfl) ⟨(rKeep.tr (rKeep.tr rKeep.rf qs1.1 rfl rfl rfl rfl rfl) (rKeep.sF0 (f := 21)) rfl rfl rfl rfl rfl), h⟩
        · have h := hF c
          refine z_aload_n hC (pc := 75) 1 dX14_fileName_75 rfl rfl ?_
          refine z_iconst hC (pc := 76) (v := Int32.ofInt 2) dX14_fileName_76 (by decide) ?_
          refine z_aload_n hC (pc := 77) 1 dX14_fileName_77 rfl rfl ?_
          refine y_get hC (pc := 78) zf14 rOb_0 17 (v := iv (rF s1 0 17)) dX14_fileName_78 zw2484 (rv_i (Or.inl rfl) ((F_sF_ne (by decide)).trans rfl)) (kk := ?_)
          obtain ⟨p22, h⟩ := h
          refine y_callVv hC (pc := 81) (As := [iv 2, iv (rF s1 0 17)]) (kX14_bad l G κ (sF s1 0 21 (rF s1 0 17)) 2 (rF s1 0 17) W13 (r_lit rfl) (Ws1.f _ _) p22) dmX14_bad zf14 rOb_0 dX14_fileName_81 zw3000 rfl rfl (Nat.le_of_ble_eq_true rfl) (Nat.le_of_ble_eq_true rfl) (Nat.le_of_ble_eq_true rfl) (Nat.le_of_ble_eq_true rfl) (Nat.le_of_ble_eq_true rfl) (kk := fun s81 Ws81 qs81 => ?_)
          have h := h s81 Ws81 (rNMp.keep qs81.1 rfl rfl rfl rfl rfl) (qs81.1.R rfl) (qs81.1.R rfl) (qs81.1.F rfl) (qs81.1.F rfl) (qs81.1.F rfl) (qs81.1.FG g0 rfl) (qs81.1.FG g0 rfl) (fun i => qs81.1.AG (f := 10) g0 (by decide) rfl) (fun i => qs81.1.AG (f := 11) g0 (by decide) rfl) qs81.2
          refine z_aload_n hC (pc := 84) 1 dX14_fileName_84 rfl rfl ?_
          refine y_get hC (pc := 85) zf14 rOb_0 10 (v := iv (rF s81 0 10)) dX14_fileName_85 zw2478 (rv_i (Or.inl rfl) rfl) (kk := ?_)
          have h := h (Ws81.f _ _)
          obtain ⟨hT, hF⟩ := h
          refine y_if_eq hC (pc := 88) 93 (Ws81.f _ _) dX14_fileName_88 (by decide) (fun c => ?_) (fun c => ?_)
          · have h := hT c
            refine z_aload_n hC (pc := 93) 1 dX14_fileName_93 rfl rfl ?_
            refine y_get hC (pc := 94) zf14 rOb_0 7 (v := .ref (κ (rR σ 7))) dX14_fileName_94 zw2475 (rv_g rfl ((qs81.1.R rfl).trans ((qs1.1.R rfl).trans rfl)) g0) (kk := ?_)
            refine z_aload_n hC (pc := 97) 1 dX14_fileName_97 rfl rfl ?_
            refine y_get hC (pc := 98) zf14 rOb_0 15 (v := .ref (κ (rR σ 15))) dX14_fileName_98 zw2482 (rv_b rfl ((qs81.1.R rfl).trans ((qs1.1.R rfl).trans rfl)) g11) (kk := ?_)
            refine z_aload_n hC (pc := 101) 1 dX14_fileName_101 rfl rfl ?_
            refine y_get hC (pc := 102) zf14 rOb_0 17 (v := iv (rF s1 0 17)) dX14_fileName_102 zw2484 (rv_i (Or.inl rfl) ((qs81.1.F rfl).trans ((F_sF_ne (by decide)).trans rfl))) (kk := ?_)
            refine z_iload_n hC (pc := 105) 0 dX14_fileName_105 rfl rfl ?_
            refine z_aload_n hC (pc := 106) 1 dX14_fileName_106 rfl rfl ?_
            refine y_get hC (pc := 107) zf14 rOb_0 17 (v := iv (rF s1 0 17)) dX14_fileName_107 zw2484 (rv_i (Or.inl rfl) ((qs81.1.F rfl).trans ((F_sF_ne (by decide)).trans rfl))) (kk := ?_)
            refine y_isub hC (pc := 110) (v := (v25 - (rF s1 0 17))) dX14_fileName_110 rfl ?_
            obtain ⟨p23, h⟩ := h
            refine y_callVi hC (pc := 111) (As := [.ref (κ (rR σ 15)), iv (rF s1 0 17), iv (v25 - (rF s1 0 17))]) (kX13_name l G κ s81 (rR σ 7) (rR σ 15) 4000 (rF s1 0 17) (v25 - (rF s1 0 17)) Ws81 g0 (rAr_f g11) (Ws1.f _ _) r19 p23) dmX13_name zf13 (rOb_k g0) dX14_fileName_111 zw3063 rfl rfl (Nat.le_of_ble_eq_true rfl) (Nat.le_of_ble_eq_true rfl) (Nat.le_of_ble_eq_true rfl) (Nat.le_of_ble_eq_true rfl) (Nat.le_of_ble_eq_true rfl) (kk := fun v111 s111 hv111 Ws111 qs111 => ?_)
            have h := h v111 s111 hv111 Ws111 (qs111.1.R rfl) (qs111.1.R rfl) (qs111.1.F rfl) (qs111.1.F rfl) (qs111.1.F rfl) (qs111.1.F rfl) (fz_keep qs111.1 rfl) qs111.2
            refine z_istore_n hC (pc := 114) (lv' := [(2, iv v111), (1, iv v25), (0, .ref (κ 0))]) dX14_fileName_114 rfl (by decide) rfl ?_
            refine z_aload_n hC (pc := 115) 2 dX14_fileName_115 rfl rfl ?_
            refine z_iload_n hC (pc := 116) 1 dX14_fileName_116 rfl rfl ?_
            refine y_putI hC (pc := 117) zf14 rOb_0 17 (x := v25) dX14_fileName_117 zw2484 (Or.inl rfl) rfl rfl (kk := ?_)
            have W24 := Ws111.sF (q := 0) (f := 17) (x := v25) hv25
            refine z_iload_n hC (pc := 120) 0 dX14_fileName_120 rfl rfl ?_
            exact y_reti hR dX14_fileName_121 rfl hv111 W24 (Nat.le_of_ble_eq_true rfl) (Nat.le_of_ble_eq_true rfl) ⟨(rKeep.tr (rKeep.tr (rKeep.tr (rKeep.tr (rKeep.tr rKeep.rf qs1.1 rfl rfl rfl rfl rfl) (rKeep.sF0 (f := 21)) rfl rfl rfl rfl rfl) qs81.1 rfl rfl rfl rfl rfl) qs111.1 rfl rfl rfl rfl rfl) (rKeep.sF0 (f := 17)) rfl rfl rfl rfl rfl), h⟩
          · have h := hF c
            refine z_iconst hC (pc := 91) (v := Int32.ofInt 0) dX14_fileName_91 (by decide) ?_
            exact y_reti hR dX14_fileName_92 rfl (r_lit rfl) Ws81 (Nat.le_of_ble_eq_true rfl) (Nat.le_of_ble_eq_true rfl) ⟨(rKeep.tr (rKeep.tr (rKeep.tr rKeep.rf qs1.1 rfl rfl rfl rfl rfl) (rKeep.sF0 (f := 21)) rfl rfl rfl rfl rfl) qs81.1 rfl rfl rfl rfl rfl), h⟩
      · have h := hF c
        refine z_aload_n hC (pc := 52) 1 dX14_fileName_52 rfl rfl ?_
        refine z_iconst hC (pc := 53) (v := Int32.ofInt 1) dX14_fileName_53 (by decide) ?_
        refine z_aload_n hC (pc := 54) 1 dX14_fileName_54 rfl rfl ?_
        refine y_get hC (pc := 55) zf14 rOb_0 17 (v := iv (rF s1 0 17)) dX14_fileName_55 zw2484 (rv_i (Or.inl rfl) ((F_sF_ne (by decide)).trans rfl)) (kk := ?_)
        obtain ⟨p25, h⟩ := h
        refine y_callVv hC (pc := 58) (As := [iv 1, iv (rF s1 0 17)]) (kX14_bad l G κ (sF s1 0 21 (rF s1 0 17)) 1 (rF s1 0 17) W13 (r_lit rfl) (Ws1.f _ _) p25) dmX14_bad zf14 rOb_0 dX14_fileName_58 zw3000 rfl rfl (Nat.le_of_ble_eq_true rfl) (Nat.le_of_ble_eq_true rfl) (Nat.le_of_ble_eq_true rfl) (Nat.le_of_ble_eq_true rfl) (Nat.le_of_ble_eq_true rfl) (kk := fun s58 Ws58 qs58 => ?_)
        have h := h s58 Ws58 (rNMp.keep qs58.1 rfl rfl rfl rfl rfl) (qs58.1.R rfl) (qs58.1.R rfl) (qs58.1.F rfl) (qs58.1.F rfl) (qs58.1.F rfl) (qs58.1.FG g0 rfl) (qs58.1.FG g0 rfl) (fun i => qs58.1.AG (f := 10) g0 (by decide) rfl) (fun i => qs58.1.AG (f := 11) g0 (by decide) rfl) qs58.2
        refine z_goto hC (pc := 61) 84 dX14_fileName_61 (by decide) ?_
        refine z_aload_n hC (pc := 84) 1 dX14_fileName_84 rfl rfl ?_
        refine y_get hC (pc := 85) zf14 rOb_0 10 (v := iv (rF s58 0 10)) dX14_fileName_85 zw2478 (rv_i (Or.inl rfl) rfl) (kk := ?_)
        have h := h (Ws58.f _ _)
        obtain ⟨hT, hF⟩ := h
        refine y_if_eq hC (pc := 88) 93 (Ws58.f _ _) dX14_fileName_88 (by decide) (fun c => ?_) (fun c => ?_)
        · have h := hT c
          refine z_aload_n hC (pc := 93) 1 dX14_fileName_93 rfl rfl ?_
          refine y_get hC (pc := 94) zf14 rOb_0 7 (v := .ref (κ (rR σ 7))) dX14_fileName_94 zw2475 (rv_g rfl ((qs58.1.R rfl).trans ((qs1.1.R rfl).trans rfl)) g0) (kk := ?_)
          refine z_aload_n hC (pc := 97) 1 dX14_fileName_97 rfl rfl ?_
          refine y_get hC (pc := 98) zf14 rOb_0 15 (v := .ref (κ (rR σ 15))) dX14_fileName_98 zw2482 (rv_b rfl ((qs58.1.R rfl).trans ((qs1.1.R rfl).trans rfl)) g11) (kk := ?_)
          refine z_aload_n hC (pc := 101) 1 dX14_fileName_101 rfl rfl ?_
          refine y_get hC (pc := 102) zf14 rOb_0 17 (v := iv (rF s1 0 17)) dX14_fileName_102 zw2484 (rv_i (Or.inl rfl) ((qs58.1.F rfl).trans ((F_sF_ne (by decide)).trans rfl))) (kk := ?_)
          refine z_iload_n hC (pc := 105) 0 dX14_fileName_105 rfl rfl ?_
          refine z_aload_n hC (pc := 106) 1 dX14_fileName_106 rfl rfl ?_
          refine y_get hC (pc := 107) zf14 rOb_0 17 (v := iv (rF s1 0 17)) dX14_fileName_107 zw2484 (rv_i (Or.inl rfl) ((qs58.1.F rfl).trans ((F_sF_ne (by decide)).trans rfl))) (kk := ?_)
          refine y_isub hC (pc := 110) (v := (v25 - (rF s1 0 17))) dX14_fileName_110 rfl ?_
          obtain ⟨r26, h⟩ := h
          obtain ⟨p27, h⟩ := h
          refine y_callVi hC (pc := 111) (As := [.ref (κ (rR σ 15)), iv (rF s1 0 17), iv (v25 - (rF s1 0 17))]) (kX13_name l G κ s58 (rR σ 7) (rR σ 15) 4000 (rF s1 0 17) (v25 - (rF s1 0 17)) Ws58 g0 (rAr_f g11) (Ws1.f _ _) r26 p27) dmX13_name zf13 (rOb_k g0) dX14_fileName_111 zw3063 rfl rfl (Nat.le_of_ble_eq_true rfl) (Nat.le_of_ble_eq_true rfl) (Nat.le_of_ble_eq_true rfl) (Nat.le_of_ble_eq_true rfl) (Nat.le_of_ble_eq_true rfl) (kk := fun v111 s111 hv111 Ws111 qs111 => ?_)
          have h := h v111 s111 hv111 Ws111 (qs111.1.R rfl) (qs111.1.R rfl) (qs111.1.F rfl) (qs111.1.F rfl) (qs111.1.F rfl) (qs111.1.F rfl) (fz_keep qs111.1 rfl) qs111.2
          refine z_istore_n hC (pc := 114) (lv' := [(2, iv v111), (1, iv v25), (0, .ref (κ 0))]) dX14_fileName_114 rfl (by decide) rfl ?_
          refine z_aload_n hC (pc := 115) 2 dX14_fileName_115 rfl rfl ?_
          refine z_iload_n hC (pc := 116) 1 dX14_fileName_116 rfl rfl ?_
          refine y_putI hC (pc := 117) zf14 rOb_0 17 (x := v25) dX14_fileName_117 zw2484 (Or.inl rfl) rfl rfl (kk := ?_)
          have W28 := Ws111.sF (q := 0) (f := 17) (x := v25) hv25
          refine z_iload_n hC (pc := 120) 0 dX14_fileName_120 rfl rfl ?_
          exact y_reti hR dX14_fileName_121 rfl hv111 W28 (Nat.le_of_ble_eq_true rfl) (Nat.le_of_ble_eq_true rfl) ⟨(rKeep.tr (rKeep.tr (rKeep.tr (rKeep.tr (rKeep.tr rKeep.rf qs1.1 rfl rfl rfl rfl rfl) (rKeep.sF0 (f := 21)) rfl rfl rfl rfl rfl) qs58.1 rfl rfl rfl rfl rfl) qs111.1 rfl rfl rfl rfl rfl) (rKeep.sF0 (f := 17)) rfl rfl rfl rfl rfl), h⟩
        · have h := hF c
          refine z_iconst hC (pc := 91) (v := Int32.ofInt 0) dX14_fileName_91 (by decide) ?_
          exact y_reti hR dX14_fileName_92 rfl (r_lit rfl) Ws58 (Nat.le_of_ble_eq_true rfl) (Nat.le_of_ble_eq_true rfl) ⟨(rKeep.tr (rKeep.tr (rKeep.tr rKeep.rf qs1.1 rfl rfl rfl rfl rfl) (rKeep.sF0 (f := 21)) rfl rfl rfl rfl rfl) qs58.1 rfl rfl rfl rfl rfl), h⟩
  · have h := hF c
    refine z_iconst hC (pc := 11) (v := Int32.ofInt 0) dX14_fileName_11 (by decide) ?_
    exact y_reti hR dX14_fileName_12 rfl (r_lit rfl) Ws1 (Nat.le_of_ble_eq_true rfl) (Nat.le_of_ble_eq_true rfl) ⟨(rKeep.tr rKeep.rf qs1.1 rfl rfl rfl rfl rfl), h⟩
theorem kX14_fileName_f (l : Launch) (G : zG) (κ : Nat → Nat) (σ : rS) (hwf : rWF σ) (hp : pre_X14_fileName_f σ ) : rMi l G κ yX14_fileName cX14_fileName 3 .int 7 187 [.ref (κ 0)] σ (fun x s => rKeep 0x221c00 0x1200 0 0xd00 0 σ s ∧ post_X14_fileName_f σ x s) := wX14_fileName_f l G κ σ hwf (post_X14_fileName_f σ ) (vX14_fileName_f σ hwf hp) 
def pre_X14_delimiter_f (σ : rS)  : Prop := 0 ≤ (rF σ 0 17) ∧ 0 ≤ (rF σ 0 16) ∧ (rF σ 0 16) ≤ 4000 ∧ rfk (rR σ 15) ∧ (rF σ 0 17) ≤ (rF σ 0 16) ∧ (∀ i, 0 ≤ i → i < (rF σ 0 16) → 0 ≤ (rA σ (rR σ 15) (i)))
def post_X14_delimiter_f (σ : rS)  (r : Int) (σ' : rS) : Prop := (rF σ 0 17) ≤ (rF σ' 0 17) ∧ (rF σ' 0 17) ≤ (rF σ 0 16) ∧ fz σ ≤ fz σ' ∧ 0 ≤ r
def VC_X14_delimiter_f (σ : rS) (Q : Int → rS → Prop) : Prop := pre_X14_fileString_f σ ∧ (∀ (s1 : rS), rWF s1 → rR s1 15 = rR σ 15 → rF s1 0 16 = rF σ 0 16 → FLk σ s1 → post_X14_fileString_f σ s1 → (rng (rF s1 0 10) → (((rF s1 0 10) = 0 → (rng (rF s1 0 23) → (rng (rF s1 0 22) → rng ((rF s1 0 23) - (rF s1 0 22)) ∧ ((¬ ((rF s1 0 23) - (rF s1 0 22)) = 1 → pre_X14_isLetter s1 32 ∧ (∀ (v42 : Int), rng v42 → post_X14_isLetter s1 32 v42 → ((¬ v42 = 0 → (rng (rF s1 0 21) → pre_X14_bad s1 2 (rF s1 0 21) ∧ (∀ (s88 : rS), rWF s88 → rR s88 15 = rR s1 15 → rF s88 0 16 = rF s1 0 16 → rF s88 0 17 = rF s1 0 17 → rF s88 0 21 = rF s1 0 21 → rF s88 0 22 = rF s1 0 22 → rF s88 0 23 = rF s1 0 23 → FLk s1 s88 → post_X14_bad s1 2 (rF s1 0 21) s88 → Q 32 s88))) ∧ (v42 = 0 → pre_X14_isDigit s1 32 ∧ (∀ (v49 : Int), rng v49 → post_X14_isDigit s1 32 v49 → ((¬ v49 = 0 → (rng (rF s1 0 21) → pre_X14_bad s1 2 (rF s1 0 21) ∧ (∀ (s88 : rS), rWF s88 → rR s88 15 = rR s1 15 → rF s88 0 16 = rF s1 0 16 → rF s88 0 17 = rF s1 0 17 → rF s88 0 21 = rF s1 0 21 → rF s88 0 22 = rF s1 0 22 → rF s88 0 23 = rF s1 0 23 → FLk s1 s88 → post_X14_bad s1 2 (rF s1 0 21) s88 → Q 32 s88))) ∧ (v49 = 0 → pre_X14_isBlank s1 32 ∧ (∀ (v56 : Int), rng v56 → post_X14_isBlank s1 32 v56 → ((¬ v56 = 0 → (rng (rF s1 0 21) → pre_X14_bad s1 2 (rF s1 0 21) ∧ (∀ (s88 : rS), rWF s88 → rR s88 15 = rR s1 15 → rF s88 0 16 = rF s1 0 16 → rF s88 0 17 = rF s1 0 17 → rF s88 0 21 = rF s1 0 21 → rF s88 0 22 = rF s1 0 22 → rF s88 0 23 = rF s1 0 23 → FLk s1 s88 → post_X14_bad s1 2 (rF s1 0 21) s88 → Q 32 s88))) ∧ (v56 = 0 → (∀ (x18 : Int), rng x18 → ((x18 < 0 → Q 32 s1) ∧ (¬ x18 < 0 → (rng (rF s1 0 21) → pre_X14_bad s1 2 (rF s1 0 21) ∧ (∀ (s88 : rS), rWF s88 → rR s88 15 = rR s1 15 → rF s88 0 16 = rF s1 0 16 → rF s88 0 17 = rF s1 0 17 → rF s88 0 21 = rF s1 0 21 → rF s88 0 22 = rF s1 0 22 → rF s88 0 23 = rF s1 0 23 → FLk s1 s88 → post_X14_bad s1 2 (rF s1 0 21) s88 → Q 32 s88))))))))))))))) ∧ (((rF s1 0 23) - (rF s1 0 22)) = 1 → rfk (rR σ 15) ∧ (0 ≤ (rF s1 0 22) ∧ (rF s1 0 22) < 4000) ∧ (rng (rA s1 (rR σ 15) (rF s1 0 22)) → pre_X14_isLetter s1 (rA s1 (rR σ 15) (rF s1 0 22)) ∧ (∀ (v42 : Int), rng v42 → post_X14_isLetter s1 (rA s1 (rR σ 15) (rF s1 0 22)) v42 → ((¬ v42 = 0 → (rng (rF s1 0 21) → pre_X14_bad s1 2 (rF s1 0 21) ∧ (∀ (s88 : rS), rWF s88 → rR s88 15 = rR s1 15 → rF s88 0 16 = rF s1 0 16 → rF s88 0 17 = rF s1 0 17 → rF s88 0 21 = rF s1 0 21 → rF s88 0 22 = rF s1 0 22 → rF s88 0 23 = rF s1 0 23 → FLk s1 s88 → post_X14_bad s1 2 (rF s1 0 21) s88 → Q (rA s1 (rR σ 15) (rF s1 0 22)) s88))) ∧ (v42 = 0 → pre_X14_isDigit s1 (rA s1 (rR σ 15) (rF s1 0 22)) ∧ (∀ (v49 : Int), rng v49 → post_X14_isDigit s1 (rA s1 (rR σ 15) (rF s1 0 22)) v49 → ((¬ v49 = 0 → (rng (rF s1 0 21) → pre_X14_bad s1 2 (rF s1 0 21) ∧ (∀ (s88 : rS), rWF s88 → rR s88 15 = rR s1 15 → rF s88 0 16 = rF s1 0 16 → rF s88 0 17 = rF s1 0 17 → rF s88 0 21 = rF s1 0 21 → rF s88 0 22 = rF s1 0 22 → rF s88 0 23 = rF s1 0 23 → FLk s1 s88 → post_X14_bad s1 2 (rF s1 0 21) s88 → Q (rA s1 (rR σ 15) (rF s1 0 22)) s88))) ∧ (v49 = 0 → pre_X14_isBlank s1 (rA s1 (rR σ 15) (rF s1 0 22)) ∧ (∀ (v56 : Int), rng v56 → post_X14_isBlank s1 (rA s1 (rR σ 15) (rF s1 0 22)) v56 → ((¬ v56 = 0 → (rng (rF s1 0 21) → pre_X14_bad s1 2 (rF s1 0 21) ∧ (∀ (s88 : rS), rWF s88 → rR s88 15 = rR s1 15 → rF s88 0 16 = rF s1 0 16 → rF s88 0 17 = rF s1 0 17 → rF s88 0 21 = rF s1 0 21 → rF s88 0 22 = rF s1 0 22 → rF s88 0 23 = rF s1 0 23 → FLk s1 s88 → post_X14_bad s1 2 (rF s1 0 21) s88 → Q (rA s1 (rR σ 15) (rF s1 0 22)) s88))) ∧ (v56 = 0 → (∀ (x28 : Int), rng x28 → ((x28 < 0 → Q (rA s1 (rR σ 15) (rF s1 0 22)) s1) ∧ (¬ x28 < 0 → (rng (rF s1 0 21) → pre_X14_bad s1 2 (rF s1 0 21) ∧ (∀ (s88 : rS), rWF s88 → rR s88 15 = rR s1 15 → rF s88 0 16 = rF s1 0 16 → rF s88 0 17 = rF s1 0 17 → rF s88 0 21 = rF s1 0 21 → rF s88 0 22 = rF s1 0 22 → rF s88 0 23 = rF s1 0 23 → FLk s1 s88 → post_X14_bad s1 2 (rF s1 0 21) s88 → Q (rA s1 (rR σ 15) (rF s1 0 22)) s88)))))))))))))))))))) ∧ (¬ (rF s1 0 10) = 0 → Q 0 s1))))
set_option maxHeartbeats 20000000 in
theorem vX14_delimiter_f (σ : rS) (hwf : rWF σ) (hp : pre_X14_delimiter_f σ ) : VC_X14_delimiter_f σ (post_X14_delimiter_f σ ) := by
  unfold pre_X14_delimiter_f at hp
  obtain ⟨hp_1, hp_2, hp_3, hp_4, hp_5, hp_6⟩ := hp
  have zr0 := fz_rng σ
  have hk5 := hp_4.1
  unfold VC_X14_delimiter_f
  refine ⟨(by (try simp only [pre_X14_fileString_f]); (all_goals (repeat' (first | with_reducible intro _ | with_reducible apply And.intro))); all_goals (first | assumption | trivial | ((with_reducible refine Im.i fun hf_ => ?_); first | exact ((fun _ => RG.rf) hf_) | exact ok1.i | (exact LI.z (fun h => absurd h (by decide))) | (exact absurd hf_ (by omega)) | omega) | omega | (have zz_ := fz_z (by assumption); omega) | (split <;> omega) | (have e_ : FLk σ s1 := (by assumption); rw [e_ _ _ hk5]; exact hp_6 _ (by omega) (by omega)) | grind (splits := 20) [Im])), ?_⟩
  intro s1 Ws1 e1_0 e1_1 e1_2 q1
  unfold post_X14_fileString_f at q1
  obtain ⟨q1_1, q1_2, q1_3, q1_4⟩ := q1
  have zr1 := fz_rng s1
  intro hr_; unfold rng at hr_
  refine ⟨fun c8 => ?_, fun c8 => ?_⟩
  · have z8 := fz_z c8
    intro hr_; unfold rng at hr_
    intro hr_; unfold rng at hr_
    refine ⟨(by (try simp only [rng]); (all_goals (repeat' (first | with_reducible intro _ | with_reducible apply And.intro))); all_goals (first | assumption | trivial | ((with_reducible refine Im.i fun hf_ => ?_); first | exact ((fun _ => RG.rf) hf_) | exact ok1.i | (exact LI.z (fun h => absurd h (by decide))) | (exact absurd hf_ (by omega)) | omega) | omega | (have zz_ := fz_z (by assumption); omega) | (split <;> omega) | (have e_ : FLk σ s1 := (by assumption); rw [e_ _ _ hk5]; exact hp_6 _ (by omega) (by omega)) | grind (splits := 20) [Im])), ?_⟩
    refine ⟨fun c23 => ?_, fun c23 => ?_⟩
    · refine ⟨(by (try simp only [pre_X14_isLetter]); (all_goals (repeat' (first | with_reducible intro _ | with_reducible apply And.intro))); all_goals (first | assumption | trivial | ((with_reducible refine Im.i fun hf_ => ?_); first | exact ((fun _ => RG.rf) hf_) | exact ok1.i | (exact LI.z (fun h => absurd h (by decide))) | (exact absurd hf_ (by omega)) | omega) | omega | (have zz_ := fz_z (by assumption); omega) | (split <;> omega) | (have e_ : FLk σ s1 := (by assumption); rw [e_ _ _ hk5]; exact hp_6 _ (by omega) (by omega)) | grind (splits := 20) [Im])), ?_⟩
      intro v42 hv42 q42
      unfold rng at hv42
      unfold post_X14_isLetter at q42
      obtain ⟨q42_1, q42_2⟩ := q42
      refine ⟨fun c45 => ?_, fun c45 => ?_⟩
      · intro hr_; unfold rng at hr_
        refine ⟨(by (try simp only [pre_X14_bad]); (all_goals (repeat' (first | with_reducible intro _ | with_reducible apply And.intro))); all_goals (first | assumption | trivial | ((with_reducible refine Im.i fun hf_ => ?_); first | exact ((fun _ => RG.rf) hf_) | exact ok1.i | (exact LI.z (fun h => absurd h (by decide))) | (exact absurd hf_ (by omega)) | omega) | omega | (have zz_ := fz_z (by assumption); omega) | (split <;> omega) | (have e_ : FLk σ s1 := (by assumption); rw [e_ _ _ hk5]; exact hp_6 _ (by omega) (by omega)) | grind (splits := 20) [Im])), ?_⟩
        intro s88 Ws88 e88_0 e88_1 e88_2 e88_3 e88_4 e88_5 e88_6 q88
        have q88 := dig_bad q88 (by omega)
        obtain ⟨q88_1, q88_2⟩ := q88
        have zr88 := fz_rng s88
        exact (by (try simp only [post_X14_delimiter_f]); (all_goals (repeat' (first | with_reducible intro _ | with_reducible apply And.intro))); all_goals (first | assumption | trivial | ((with_reducible refine Im.i fun hf_ => ?_); first | exact ((fun _ => RG.rf) hf_) | exact ok1.i | (exact LI.z (fun h => absurd h (by decide))) | (exact absurd hf_ (by omega)) | omega) | omega | (have zz_ := fz_z (by assumption); omega) | (split <;> omega) | (have e_ : FLk σ s1 := (by assumption); rw [e_ _ _ hk5]; exact hp_6 _ (by omega) (by omega)) | grind (splits := 20) [Im]))
      · refine ⟨(by (try simp only [pre_X14_isDigit]); (all_goals (repeat' (first | with_reducible intro _ | with_reducible apply And.intro))); all_goals (first | assumption | trivial | ((with_reducible refine Im.i fun hf_ => ?_); first | exact ((fun _ => RG.rf) hf_) | exact ok1.i | (exact LI.z (fun h => absurd h (by decide))) | (exact absurd hf_ (by omega)) | omega) | omega | (have zz_ := fz_z (by assumption); omega) | (split <;> omega) | (have e_ : FLk σ s1 := (by assumption); rw [e_ _ _ hk5]; exact hp_6 _ (by omega) (by omega)) | grind (splits := 20) [Im])), ?_⟩
        intro v49 hv49 q49
        unfold rng at hv49
        unfold post_X14_isDigit at q49
        obtain ⟨q49_1, q49_2⟩ := q49
        refine ⟨fun c52 => ?_, fun c52 => ?_⟩
        · intro hr_; unfold rng at hr_
          refine ⟨(by (try simp only [pre_X14_bad]); (all_goals (repeat' (first | with_reducible intro _ | with_reducible apply And.intro))); all_goals (first | assumption | trivial | ((with_reducible refine Im.i fun hf_ => ?_); first | exact ((fun _ => RG.rf) hf_) | exact ok1.i | (exact LI.z (fun h => absurd h (by decide))) | (exact absurd hf_ (by omega)) | omega) | omega | (have zz_ := fz_z (by assumption); omega) | (split <;> omega) | (have e_ : FLk σ s1 := (by assumption); rw [e_ _ _ hk5]; exact hp_6 _ (by omega) (by omega)) | grind (splits := 20) [Im])), ?_⟩
          intro s88 Ws88 e88_0 e88_1 e88_2 e88_3 e88_4 e88_5 e88_6 q88
          have q88 := dig_bad q88 (by omega)
          obtain ⟨q88_1, q88_2⟩ := q88
          have zr88 := fz_rng s88
          exact (by (try simp only [post_X14_delimiter_f]); (all_goals (repeat' (first | with_reducible intro _ | with_reducible apply And.intro))); all_goals (first | assumption | trivial | ((with_reducible refine Im.i fun hf_ => ?_); first | exact ((fun _ => RG.rf) hf_) | exact ok1.i | (exact LI.z (fun h => absurd h (by decide))) | (exact absurd hf_ (by omega)) | omega) | omega | (have zz_ := fz_z (by assumption); omega) | (split <;> omega) | (have e_ : FLk σ s1 := (by assumption); rw [e_ _ _ hk5]; exact hp_6 _ (by omega) (by omega)) | grind (splits := 20) [Im]))
        · refine ⟨(by (try simp only [pre_X14_isBlank]); (all_goals (repeat' (first | with_reducible intro _ | with_reducible apply And.intro))); all_goals (first | assumption | trivial | ((with_reducible refine Im.i fun hf_ => ?_); first | exact ((fun _ => RG.rf) hf_) | exact ok1.i | (exact LI.z (fun h => absurd h (by decide))) | (exact absurd hf_ (by omega)) | omega) | omega | (have zz_ := fz_z (by assumption); omega) | (split <;> omega) | (have e_ : FLk σ s1 := (by assumption); rw [e_ _ _ hk5]; exact hp_6 _ (by omega) (by omega)) | grind (splits := 20) [Im])), ?_⟩
          intro v56 hv56 q56
          unfold rng at hv56
          unfold post_X14_isBlank at q56
          obtain ⟨q56_1, q56_2⟩ := q56
          refine ⟨fun c59 => ?_, fun c59 => ?_⟩
          · intro hr_; unfold rng at hr_
            refine ⟨(by (try simp only [pre_X14_bad]); (all_goals (repeat' (first | with_reducible intro _ | with_reducible apply And.intro))); all_goals (first | assumption | trivial | ((with_reducible refine Im.i fun hf_ => ?_); first | exact ((fun _ => RG.rf) hf_) | exact ok1.i | (exact LI.z (fun h => absurd h (by decide))) | (exact absurd hf_ (by omega)) | omega) | omega | (have zz_ := fz_z (by assumption); omega) | (split <;> omega) | (have e_ : FLk σ s1 := (by assumption); rw [e_ _ _ hk5]; exact hp_6 _ (by omega) (by omega)) | grind (splits := 20) [Im])), ?_⟩
            intro s88 Ws88 e88_0 e88_1 e88_2 e88_3 e88_4 e88_5 e88_6 q88
            have q88 := dig_bad q88 (by omega)
            obtain ⟨q88_1, q88_2⟩ := q88
            have zr88 := fz_rng s88
            exact (by (try simp only [post_X14_delimiter_f]); (all_goals (repeat' (first | with_reducible intro _ | with_reducible apply And.intro))); all_goals (first | assumption | trivial | ((with_reducible refine Im.i fun hf_ => ?_); first | exact ((fun _ => RG.rf) hf_) | exact ok1.i | (exact LI.z (fun h => absurd h (by decide))) | (exact absurd hf_ (by omega)) | omega) | omega | (have zz_ := fz_z (by assumption); omega) | (split <;> omega) | (have e_ : FLk σ s1 := (by assumption); rw [e_ _ _ hk5]; exact hp_6 _ (by omega) (by omega)) | grind (splits := 20) [Im]))
          · intro x18 hx18
            refine ⟨fun c69 => ?_, fun c69 => ?_⟩
            · exact (by (try simp only [post_X14_delimiter_f]); (all_goals (repeat' (first | with_reducible intro _ | with_reducible apply And.intro))); all_goals (first | assumption | trivial | ((with_reducible refine Im.i fun hf_ => ?_); first | exact ((fun _ => RG.rf) hf_) | exact ok1.i | (exact LI.z (fun h => absurd h (by decide))) | (exact absurd hf_ (by omega)) | omega) | omega | (have zz_ := fz_z (by assumption); omega) | (split <;> omega) | (have e_ : FLk σ s1 := (by assumption); rw [e_ _ _ hk5]; exact hp_6 _ (by omega) (by omega)) | grind (splits := 20) [Im]))
            · intro hr_; unfold rng at hr_
              refine ⟨(by (try simp only [pre_X14_bad]); (all_goals (repeat' (first | with_reducible intro _ | with_reducible apply And.intro))); all_goals (first | assumption | trivial | ((with_reducible refine Im.i fun hf_ => ?_); first | exact ((fun _ => RG.rf) hf_) | exact ok1.i | (exact LI.z (fun h => absurd h (by decide))) | (exact absurd hf_ (by omega)) | omega) | omega | (have zz_ := fz_z (by assumption); omega) | (split <;> omega) | (have e_ : FLk σ s1 := (by assumption); rw [e_ _ _ hk5]; exact hp_6 _ (by omega) (by omega)) | grind (splits := 20) [Im])), ?_⟩
              intro s88 Ws88 e88_0 e88_1 e88_2 e88_3 e88_4 e88_5 e88_6 q88
              have q88 := dig_bad q88 (by omega)
              obtain ⟨q88_1, q88_2⟩ := q88
              have zr88 := fz_rng s88
              exact (by (try simp only [post_X14_delimiter_f]); (all_goals (repeat' (first | with_reducible intro _ | with_reducible apply And.intro))); all_goals (first | assumption | trivial | ((with_reducible refine Im.i fun hf_ => ?_); first | exact ((fun _ => RG.rf) hf_) | exact ok1.i | (exact LI.z (fun h => absurd h (by decide))) | (exact absurd hf_ (by omega)) | omega) | omega | (have zz_ := fz_z (by assumption); omega) | (split <;> omega) | (have e_ : FLk σ s1 := (by assumption); rw [e_ _ _ hk5]; exact hp_6 _ (by omega) (by omega)) | grind (splits := 20) [Im]))
    · refine ⟨(by (all_goals (repeat' (first | with_reducible intro _ | with_reducible apply And.intro))); all_goals (first | assumption | trivial | ((with_reducible refine Im.i fun hf_ => ?_); first | exact ((fun _ => RG.rf) hf_) | exact ok1.i | (exact LI.z (fun h => absurd h (by decide))) | (exact absurd hf_ (by omega)) | omega) | omega | (have zz_ := fz_z (by assumption); omega) | (split <;> omega) | (have e_ : FLk σ s1 := (by assumption); rw [e_ _ _ hk5]; exact hp_6 _ (by omega) (by omega)) | grind (splits := 20) [Im])), ?_⟩
      refine ⟨(by (all_goals (repeat' (first | with_reducible intro _ | with_reducible apply And.intro))); all_goals (first | assumption | trivial | ((with_reducible refine Im.i fun hf_ => ?_); first | exact ((fun _ => RG.rf) hf_) | exact ok1.i | (exact LI.z (fun h => absurd h (by decide))) | (exact absurd hf_ (by omega)) | omega) | omega | (have zz_ := fz_z (by assumption); omega) | (split <;> omega) | (have e_ : FLk σ s1 := (by assumption); rw [e_ _ _ hk5]; exact hp_6 _ (by omega) (by omega)) | grind (splits := 20) [Im])), ?_⟩
      intro hr_; unfold rng at hr_
      refine ⟨(by (try simp only [pre_X14_isLetter]); (all_goals (repeat' (first | with_reducible intro _ | with_reducible apply And.intro))); all_goals (first | assumption | trivial | ((with_reducible refine Im.i fun hf_ => ?_); first | exact ((fun _ => RG.rf) hf_) | exact ok1.i | (exact LI.z (fun h => absurd h (by decide))) | (exact absurd hf_ (by omega)) | omega) | omega | (have zz_ := fz_z (by assumption); omega) | (split <;> omega) | (have e_ : FLk σ s1 := (by assumption); rw [e_ _ _ hk5]; exact hp_6 _ (by omega) (by omega)) | grind (splits := 20) [Im])), ?_⟩
      intro v42 hv42 q42
      unfold rng at hv42
      unfold post_X14_isLetter at q42
      obtain ⟨q42_1, q42_2⟩ := q42
      refine ⟨fun c45 => ?_, fun c45 => ?_⟩
      · intro hr_; unfold rng at hr_
        refine ⟨(by (try simp only [pre_X14_bad]); (all_goals (repeat' (first | with_reducible intro _ | with_reducible apply And.intro))); all_goals (first | assumption | trivial | ((with_reducible refine Im.i fun hf_ => ?_); first | exact ((fun _ => RG.rf) hf_) | exact ok1.i | (exact LI.z (fun h => absurd h (by decide))) | (exact absurd hf_ (by omega)) | omega) | omega | (have zz_ := fz_z (by assumption); omega) | (split <;> omega) | (have e_ : FLk σ s1 := (by assumption); rw [e_ _ _ hk5]; exact hp_6 _ (by omega) (by omega)) | grind (splits := 20) [Im])), ?_⟩
        intro s88 Ws88 e88_0 e88_1 e88_2 e88_3 e88_4 e88_5 e88_6 q88
        have q88 := dig_bad q88 (by omega)
        obtain ⟨q88_1, q88_2⟩ := q88
        have zr88 := fz_rng s88
        exact (by (try simp only [post_X14_delimiter_f]); (all_goals (repeat' (first | with_reducible intro _ | with_reducible apply And.intro))); all_goals (first | assumption | trivial | ((with_reducible refine Im.i fun hf_ => ?_); first | exact ((fun _ => RG.rf) hf_) | exact ok1.i | (exact LI.z (fun h => absurd h (by decide))) | (exact absurd hf_ (by omega)) | omega) | omega | (have zz_ := fz_z (by assumption); omega) | (split <;> omega) | (have e_ : FLk σ s1 := (by assumption); rw [e_ _ _ hk5]; exact hp_6 _ (by omega) (by omega)) | grind (splits := 20) [Im]))
      · refine ⟨(by (try simp only [pre_X14_isDigit]); (all_goals (repeat' (first | with_reducible intro _ | with_reducible apply And.intro))); all_goals (first | assumption | trivial | ((with_reducible refine Im.i fun hf_ => ?_); first | exact ((fun _ => RG.rf) hf_) | exact ok1.i | (exact LI.z (fun h => absurd h (by decide))) | (exact absurd hf_ (by omega)) | omega) | omega | (have zz_ := fz_z (by assumption); omega) | (split <;> omega) | (have e_ : FLk σ s1 := (by assumption); rw [e_ _ _ hk5]; exact hp_6 _ (by omega) (by omega)) | grind (splits := 20) [Im])), ?_⟩
        intro v49 hv49 q49
        unfold rng at hv49
        unfold post_X14_isDigit at q49
        obtain ⟨q49_1, q49_2⟩ := q49
        refine ⟨fun c52 => ?_, fun c52 => ?_⟩
        · intro hr_; unfold rng at hr_
          refine ⟨(by (try simp only [pre_X14_bad]); (all_goals (repeat' (first | with_reducible intro _ | with_reducible apply And.intro))); all_goals (first | assumption | trivial | ((with_reducible refine Im.i fun hf_ => ?_); first | exact ((fun _ => RG.rf) hf_) | exact ok1.i | (exact LI.z (fun h => absurd h (by decide))) | (exact absurd hf_ (by omega)) | omega) | omega | (have zz_ := fz_z (by assumption); omega) | (split <;> omega) | (have e_ : FLk σ s1 := (by assumption); rw [e_ _ _ hk5]; exact hp_6 _ (by omega) (by omega)) | grind (splits := 20) [Im])), ?_⟩
          intro s88 Ws88 e88_0 e88_1 e88_2 e88_3 e88_4 e88_5 e88_6 q88
          have q88 := dig_bad q88 (by omega)
          obtain ⟨q88_1, q88_2⟩ := q88
          have zr88 := fz_rng s88
          exact (by (try simp only [post_X14_delimiter_f]); (all_goals (repeat' (first | with_reducible intro _ | with_reducible apply And.intro))); all_goals (first | assumption | trivial | ((with_reducible refine Im.i fun hf_ => ?_); first | exact ((fun _ => RG.rf) hf_) | exact ok1.i | (exact LI.z (fun h => absurd h (by decide))) | (exact absurd hf_ (by omega)) | omega) | omega | (have zz_ := fz_z (by assumption); omega) | (split <;> omega) | (have e_ : FLk σ s1 := (by assumption); rw [e_ _ _ hk5]; exact hp_6 _ (by omega) (by omega)) | grind (splits := 20) [Im]))
        · refine ⟨(by (try simp only [pre_X14_isBlank]); (all_goals (repeat' (first | with_reducible intro _ | with_reducible apply And.intro))); all_goals (first | assumption | trivial | ((with_reducible refine Im.i fun hf_ => ?_); first | exact ((fun _ => RG.rf) hf_) | exact ok1.i | (exact LI.z (fun h => absurd h (by decide))) | (exact absurd hf_ (by omega)) | omega) | omega | (have zz_ := fz_z (by assumption); omega) | (split <;> omega) | (have e_ : FLk σ s1 := (by assumption); rw [e_ _ _ hk5]; exact hp_6 _ (by omega) (by omega)) | grind (splits := 20) [Im])), ?_⟩
          intro v56 hv56 q56
          unfold rng at hv56
          unfold post_X14_isBlank at q56
          obtain ⟨q56_1, q56_2⟩ := q56
          refine ⟨fun c59 => ?_, fun c59 => ?_⟩
          · intro hr_; unfold rng at hr_
            refine ⟨(by (try simp only [pre_X14_bad]); (all_goals (repeat' (first | with_reducible intro _ | with_reducible apply And.intro))); all_goals (first | assumption | trivial | ((with_reducible refine Im.i fun hf_ => ?_); first | exact ((fun _ => RG.rf) hf_) | exact ok1.i | (exact LI.z (fun h => absurd h (by decide))) | (exact absurd hf_ (by omega)) | omega) | omega | (have zz_ := fz_z (by assumption); omega) | (split <;> omega) | (have e_ : FLk σ s1 := (by assumption); rw [e_ _ _ hk5]; exact hp_6 _ (by omega) (by omega)) | grind (splits := 20) [Im])), ?_⟩
            intro s88 Ws88 e88_0 e88_1 e88_2 e88_3 e88_4 e88_5 e88_6 q88
            have q88 := dig_bad q88 (by omega)
            obtain ⟨q88_1, q88_2⟩ := q88
            have zr88 := fz_rng s88
            exact (by (try simp only [post_X14_delimiter_f]); (all_goals (repeat' (first | with_reducible intro _ | with_reducible apply And.intro))); all_goals (first | assumption | trivial | ((with_reducible refine Im.i fun hf_ => ?_); first | exact ((fun _ => RG.rf) hf_) | exact ok1.i | (exact LI.z (fun h => absurd h (by decide))) | (exact absurd hf_ (by omega)) | omega) | omega | (have zz_ := fz_z (by assumption); omega) | (split <;> omega) | (have e_ : FLk σ s1 := (by assumption); rw [e_ _ _ hk5]; exact hp_6 _ (by omega) (by omega)) | grind (splits := 20) [Im]))
          · intro x28 hx28
            refine ⟨fun c69 => ?_, fun c69 => ?_⟩
            · exact (by (try simp only [post_X14_delimiter_f]); (all_goals (repeat' (first | with_reducible intro _ | with_reducible apply And.intro))); all_goals (first | assumption | trivial | ((with_reducible refine Im.i fun hf_ => ?_); first | exact ((fun _ => RG.rf) hf_) | exact ok1.i | (exact LI.z (fun h => absurd h (by decide))) | (exact absurd hf_ (by omega)) | omega) | omega | (have zz_ := fz_z (by assumption); omega) | (split <;> omega) | (have e_ : FLk σ s1 := (by assumption); rw [e_ _ _ hk5]; exact hp_6 _ (by omega) (by omega)) | grind (splits := 20) [Im]))
            · intro hr_; unfold rng at hr_
              refine ⟨(by (try simp only [pre_X14_bad]); (all_goals (repeat' (first | with_reducible intro _ | with_reducible apply And.intro))); all_goals (first | assumption | trivial | ((with_reducible refine Im.i fun hf_ => ?_); first | exact ((fun _ => RG.rf) hf_) | exact ok1.i | (exact LI.z (fun h => absurd h (by decide))) | (exact absurd hf_ (by omega)) | omega) | omega | (have zz_ := fz_z (by assumption); omega) | (split <;> omega) | (have e_ : FLk σ s1 := (by assumption); rw [e_ _ _ hk5]; exact hp_6 _ (by omega) (by omega)) | grind (splits := 20) [Im])), ?_⟩
              intro s88 Ws88 e88_0 e88_1 e88_2 e88_3 e88_4 e88_5 e88_6 q88
              have q88 := dig_bad q88 (by omega)
              obtain ⟨q88_1, q88_2⟩ := q88
              have zr88 := fz_rng s88
              exact (by (try simp only [post_X14_delimiter_f]); (all_goals (repeat' (first | with_reducible intro _ | with_reducible apply And.intro))); all_goals (first | assumption | trivial | ((with_reducible refine Im.i fun hf_ => ?_); first | exact ((fun _ => RG.rf) hf_) | exact ok1.i | (exact LI.z (fun h => absurd h (by decide))) | (exact absurd hf_ (by omega)) | omega) | omega | (have zz_ := fz_z (by assumption); omega) | (split <;> omega) | (have e_ : FLk σ s1 := (by assumption); rw [e_ _ _ hk5]; exact hp_6 _ (by omega) (by omega)) | grind (splits := 20) [Im]))
  · have z8 := fz_n c8
    exact (by (try simp only [post_X14_delimiter_f]); (all_goals (repeat' (first | with_reducible intro _ | with_reducible apply And.intro))); all_goals (first | assumption | trivial | ((with_reducible refine Im.i fun hf_ => ?_); first | exact ((fun _ => RG.rf) hf_) | exact ok1.i | (exact LI.z (fun h => absurd h (by decide))) | (exact absurd hf_ (by omega)) | omega) | omega | (have zz_ := fz_z (by assumption); omega) | (split <;> omega) | (have e_ : FLk σ s1 := (by assumption); rw [e_ _ _ hk5]; exact hp_6 _ (by omega) (by omega)) | grind (splits := 20) [Im]))
theorem wX14_delimiter_f (l : Launch) (G : zG) (κ : Nat → Nat) (σ : rS) (hwf : rWF σ) (Q : Int → rS → Prop) (h : VC_X14_delimiter_f σ Q) : rMi l G κ yX14_delimiter cX14_delimiter 3 .int 5 121 [.ref (κ 0)] σ (fun x s => rKeep 0xe21c00 0 0 0 0 σ s ∧ Q x s) := by
  refine zMi.intro (by decide +kernel) (Nat.le_of_ble_eq_true rfl) (fun X hC hR => ?_)
  refine z_aload_n hC (pc := 0) 0 dX14_delimiter_0 rfl rfl ?_
  obtain ⟨p10, h⟩ := h
  refine y_callVv hC (pc := 1) (As := []) (kX14_fileString_f l G κ σ  hwf  p10) dmX14_fileString zf14 rOb_0 dX14_delimiter_1 zw3027 rfl rfl (Nat.le_of_ble_eq_true rfl) (Nat.le_of_ble_eq_true rfl) (Nat.le_of_ble_eq_true rfl) (Nat.le_of_ble_eq_true rfl) (Nat.le_of_ble_eq_true rfl) (kk := fun s1 Ws1 qs1 => ?_)
  have h := h s1 Ws1 (qs1.1.R rfl) (qs1.1.F rfl) (fun _ _ hp => qs1.1.FL hp) qs1.2
  refine z_aload_n hC (pc := 4) 0 dX14_delimiter_4 rfl rfl ?_
  refine y_get hC (pc := 5) zf14 rOb_0 10 (v := iv (rF s1 0 10)) dX14_delimiter_5 zw2478 (rv_i (Or.inl rfl) rfl) (kk := ?_)
  have h := h (Ws1.f _ _)
  obtain ⟨hT, hF⟩ := h
  refine y_if_eq hC (pc := 8) 13 (Ws1.f _ _) dX14_delimiter_8 (by decide) (fun c => ?_) (fun c => ?_)
  · have h := hT c
    refine z_aload_n hC (pc := 13) 0 dX14_delimiter_13 rfl rfl ?_
    refine y_get hC (pc := 14) zf14 rOb_0 23 (v := iv (rF s1 0 23)) dX14_delimiter_14 zw2490 (rv_i (Or.inl rfl) rfl) (kk := ?_)
    have h := h (Ws1.f _ _)
    refine z_aload_n hC (pc := 17) 0 dX14_delimiter_17 rfl rfl ?_
    refine y_get hC (pc := 18) zf14 rOb_0 22 (v := iv (rF s1 0 22)) dX14_delimiter_18 zw2489 (rv_i (Or.inl rfl) rfl) (kk := ?_)
    have h := h (Ws1.f _ _)
    refine y_isub hC (pc := 21) (v := ((rF s1 0 23) - (rF s1 0 22))) dX14_delimiter_21 rfl ?_
    refine z_iconst hC (pc := 22) (v := Int32.ofInt 1) dX14_delimiter_22 (by decide) ?_
    obtain ⟨r11, h⟩ := h
    obtain ⟨hT, hF⟩ := h
    refine y_icmp_ne hC (pc := 23) 38 r11 (r_lit rfl) dX14_delimiter_23 (by decide) (fun c => ?_) (fun c => ?_)
    · have h := hT c
      refine z_bipush hC (pc := 38) (v := Int32.ofInt 32) dX14_delimiter_38 (by decide) ?_
      refine z_istore_n hC (pc := 40) (lv' := [(1, iv 32), (0, .ref (κ 0))]) dX14_delimiter_40 rfl (by decide) rfl ?_
      refine z_iload_n hC (pc := 41) 0 dX14_delimiter_41 rfl rfl ?_
      obtain ⟨p12, h⟩ := h
      refine y_callSi hC (pc := 42) (As := [iv 32]) (kX14_isLetter l G κ s1 32 Ws1 (r_lit rfl) p12) dmX14_isLetter dX14_delimiter_42 zw3012 rfl rfl (Nat.le_of_ble_eq_true rfl) (Nat.le_of_ble_eq_true rfl) (Nat.le_of_ble_eq_true rfl) (Nat.le_of_ble_eq_true rfl) (Nat.le_of_ble_eq_true rfl) (kk := fun v42 s42 hv42 Ws42 qs42 => ?_)
      obtain ⟨es42, qs42⟩ := qs42
      have es42 := es42.symm
      subst es42
      have h := h v42 hv42 qs42
      obtain ⟨hT, hF⟩ := h
      refine y_if_ne hC (pc := 45) 72 hv42 dX14_delimiter_45 (by decide) (fun c => ?_) (fun c => ?_)
      · have h := hT c
        refine z_iconst hC (pc := 72) (v := Int32.ofInt 1) dX14_delimiter_72 (by decide) ?_
        refine z_goto hC (pc := 73) 77 dX14_delimiter_73 (by decide) ?_
        refine z_istore_n hC (pc := 77) (lv' := [(2, iv 1), (1, iv 32), (0, .ref (κ 0))]) dX14_delimiter_77 rfl (by decide) rfl ?_
        refine z_iload_n hC (pc := 78) 0 dX14_delimiter_78 rfl rfl ?_
        refine y_if_eq hC (pc := 79) 91 (r_lit rfl) dX14_delimiter_79 (by decide) (fun c => absurd c (by decide)) (fun _ => ?_)
        refine z_aload_n hC (pc := 82) 2 dX14_delimiter_82 rfl rfl ?_
        refine z_iconst hC (pc := 83) (v := Int32.ofInt 2) dX14_delimiter_83 (by decide) ?_
        refine z_aload_n hC (pc := 84) 2 dX14_delimiter_84 rfl rfl ?_
        refine y_get hC (pc := 85) zf14 rOb_0 21 (v := iv (rF s1 0 21)) dX14_delimiter_85 zw2488 (rv_i (Or.inl rfl) rfl) (kk := ?_)
        have h := h (Ws1.f _ _)
        obtain ⟨p13, h⟩ := h
        refine y_callVv hC (pc := 88) (As := [iv 2, iv (rF s1 0 21)]) (kX14_bad l G κ s1 2 (rF s1 0 21) Ws1 (r_lit rfl) (Ws1.f _ _) p13) dmX14_bad zf14 rOb_0 dX14_delimiter_88 zw3000 rfl rfl (Nat.le_of_ble_eq_true rfl) (Nat.le_of_ble_eq_true rfl) (Nat.le_of_ble_eq_true rfl) (Nat.le_of_ble_eq_true rfl) (Nat.le_of_ble_eq_true rfl) (kk := fun s88 Ws88 qs88 => ?_)
        have h := h s88 Ws88 (qs88.1.R rfl) (qs88.1.F rfl) (qs88.1.F rfl) (qs88.1.F rfl) (qs88.1.F rfl) (qs88.1.F rfl) (fun _ _ hp => qs88.1.FL hp) qs88.2
        refine z_iload_n hC (pc := 91) 1 dX14_delimiter_91 rfl rfl ?_
        exact y_reti hR dX14_delimiter_92 rfl (r_lit rfl) Ws88 (Nat.le_of_ble_eq_true rfl) (Nat.le_of_ble_eq_true rfl) ⟨(rKeep.tr (rKeep.tr rKeep.rf qs1.1 rfl rfl rfl rfl rfl) qs88.1 rfl rfl rfl rfl rfl), h⟩
      · have h := hF c
        refine z_iload_n hC (pc := 48) 0 dX14_delimiter_48 rfl rfl ?_
        obtain ⟨p14, h⟩ := h
        refine y_callSi hC (pc := 49) (As := [iv 32]) (kX14_isDigit l G κ s1 32 Ws1 (r_lit rfl) p14) dmX14_isDigit dX14_delimiter_49 zw3015 rfl rfl (Nat.le_of_ble_eq_true rfl) (Nat.le_of_ble_eq_true rfl) (Nat.le_of_ble_eq_true rfl) (Nat.le_of_ble_eq_true rfl) (Nat.le_of_ble_eq_true rfl) (kk := fun v49 s49 hv49 Ws49 qs49 => ?_)
        obtain ⟨es49, qs49⟩ := qs49
        have es49 := es49.symm
        subst es49
        have h := h v49 hv49 qs49
        obtain ⟨hT, hF⟩ := h
        refine y_if_ne hC (pc := 52) 72 hv49 dX14_delimiter_52 (by decide) (fun c => ?_) (fun c => ?_)
        · have h := hT c
          refine z_iconst hC (pc := 72) (v := Int32.ofInt 1) dX14_delimiter_72 (by decide) ?_
          refine z_goto hC (pc := 73) 77 dX14_delimiter_73 (by decide) ?_
          refine z_istore_n hC (pc := 77) (lv' := [(2, iv 1), (1, iv 32), (0, .ref (κ 0))]) dX14_delimiter_77 rfl (by decide) rfl ?_
          refine z_iload_n hC (pc := 78) 0 dX14_delimiter_78 rfl rfl ?_
          refine y_if_eq hC (pc := 79) 91 (r_lit rfl) dX14_delimiter_79 (by decide) (fun c => absurd c (by decide)) (fun _ => ?_)
          refine z_aload_n hC (pc := 82) 2 dX14_delimiter_82 rfl rfl ?_
          refine z_iconst hC (pc := 83) (v := Int32.ofInt 2) dX14_delimiter_83 (by decide) ?_
          refine z_aload_n hC (pc := 84) 2 dX14_delimiter_84 rfl rfl ?_
          refine y_get hC (pc := 85) zf14 rOb_0 21 (v := iv (rF s1 0 21)) dX14_delimiter_85 zw2488 (rv_i (Or.inl rfl) rfl) (kk := ?_)
          have h := h (Ws1.f _ _)
          obtain ⟨p15, h⟩ := h
          refine y_callVv hC (pc := 88) (As := [iv 2, iv (rF s1 0 21)]) (kX14_bad l G κ s1 2 (rF s1 0 21) Ws1 (r_lit rfl) (Ws1.f _ _) p15) dmX14_bad zf14 rOb_0 dX14_delimiter_88 zw3000 rfl rfl (Nat.le_of_ble_eq_true rfl) (Nat.le_of_ble_eq_true rfl) (Nat.le_of_ble_eq_true rfl) (Nat.le_of_ble_eq_true rfl) (Nat.le_of_ble_eq_true rfl) (kk := fun s88 Ws88 qs88 => ?_)
          have h := h s88 Ws88 (qs88.1.R rfl) (qs88.1.F rfl) (qs88.1.F rfl) (qs88.1.F rfl) (qs88.1.F rfl) (qs88.1.F rfl) (fun _ _ hp => qs88.1.FL hp) qs88.2
          refine z_iload_n hC (pc := 91) 1 dX14_delimiter_91 rfl rfl ?_
          exact y_reti hR dX14_delimiter_92 rfl (r_lit rfl) Ws88 (Nat.le_of_ble_eq_true rfl) (Nat.le_of_ble_eq_true rfl) ⟨(rKeep.tr (rKeep.tr rKeep.rf qs1.1 rfl rfl rfl rfl rfl) qs88.1 rfl rfl rfl rfl rfl), h⟩
        · have h := hF c
          refine z_iload_n hC (pc := 55) 0 dX14_delimiter_55 rfl rfl ?_
          obtain ⟨p16, h⟩ := h
          refine y_callSi hC (pc := 56) (As := [iv 32]) (kX14_isBlank l G κ s1 32 Ws1 (r_lit rfl) p16) dmX14_isBlank dX14_delimiter_56 zw2997 rfl rfl (Nat.le_of_ble_eq_true rfl) (Nat.le_of_ble_eq_true rfl) (Nat.le_of_ble_eq_true rfl) (Nat.le_of_ble_eq_true rfl) (Nat.le_of_ble_eq_true rfl) (kk := fun v56 s56 hv56 Ws56 qs56 => ?_)
          obtain ⟨es56, qs56⟩ := qs56
          have es56 := es56.symm
          subst es56
          have h := h v56 hv56 qs56
          obtain ⟨hT, hF⟩ := h
          refine y_if_ne hC (pc := 59) 72 hv56 dX14_delimiter_59 (by decide) (fun c => ?_) (fun c => ?_)
          · have h := hT c
            refine z_iconst hC (pc := 72) (v := Int32.ofInt 1) dX14_delimiter_72 (by decide) ?_
            refine z_goto hC (pc := 73) 77 dX14_delimiter_73 (by decide) ?_
            refine z_istore_n hC (pc := 77) (lv' := [(2, iv 1), (1, iv 32), (0, .ref (κ 0))]) dX14_delimiter_77 rfl (by decide) rfl ?_
            refine z_iload_n hC (pc := 78) 0 dX14_delimiter_78 rfl rfl ?_
            refine y_if_eq hC (pc := 79) 91 (r_lit rfl) dX14_delimiter_79 (by decide) (fun c => absurd c (by decide)) (fun _ => ?_)
            refine z_aload_n hC (pc := 82) 2 dX14_delimiter_82 rfl rfl ?_
            refine z_iconst hC (pc := 83) (v := Int32.ofInt 2) dX14_delimiter_83 (by decide) ?_
            refine z_aload_n hC (pc := 84) 2 dX14_delimiter_84 rfl rfl ?_
            refine y_get hC (pc := 85) zf14 rOb_0 21 (v := iv (rF s1 0 21)) dX14_delimiter_85 zw2488 (rv_i (Or.inl rfl) rfl) (kk := ?_)
            have h := h (Ws1.f _ _)
            obtain ⟨p17, h⟩ := h
            refine y_callVv hC (pc := 88) (As := [iv 2, iv (rF s1 0 21)]) (kX14_bad l G κ s1 2 (rF s1 0 21) Ws1 (r_lit rfl) (Ws1.f _ _) p17) dmX14_bad zf14 rOb_0 dX14_delimiter_88 zw3000 rfl rfl (Nat.le_of_ble_eq_true rfl) (Nat.le_of_ble_eq_true rfl) (Nat.le_of_ble_eq_true rfl) (Nat.le_of_ble_eq_true rfl) (Nat.le_of_ble_eq_true rfl) (kk := fun s88 Ws88 qs88 => ?_)
            have h := h s88 Ws88 (qs88.1.R rfl) (qs88.1.F rfl) (qs88.1.F rfl) (qs88.1.F rfl) (qs88.1.F rfl) (qs88.1.F rfl) (fun _ _ hp => qs88.1.FL hp) qs88.2
            refine z_iload_n hC (pc := 91) 1 dX14_delimiter_91 rfl rfl ?_
            exact y_reti hR dX14_delimiter_92 rfl (r_lit rfl) Ws88 (Nat.le_of_ble_eq_true rfl) (Nat.le_of_ble_eq_true rfl) ⟨(rKeep.tr (rKeep.tr rKeep.rf qs1.1 rfl rfl rfl rfl rfl) qs88.1 rfl rfl rfl rfl rfl), h⟩
          · have h := hF c
            refine z_ldcSw hC (pc := 62) dX14_delimiter_62 zS_29 ?_
            refine z_iload_n hC (pc := 65) 0 dX14_delimiter_65 rfl rfl ?_
            refine y_sidx hC (pc := 66) (i := 32) (rSt_29 G) dX14_delimiter_66 zw3032 (Nat.le_of_ble_eq_true rfl) (Nat.le_of_ble_eq_true rfl) (Nat.le_of_ble_eq_true rfl) (Nat.le_of_ble_eq_true rfl) (Nat.le_of_ble_eq_true rfl) (fun x18 hx18 => ?_)
            have h := h x18 hx18
            obtain ⟨hT, hF⟩ := h
            refine y_if_lt hC (pc := 69) 76 hx18 dX14_delimiter_69 (by decide) (fun c => ?_) (fun c => ?_)
            · have h := hT c
              refine z_iconst hC (pc := 76) (v := Int32.ofInt 0) dX14_delimiter_76 (by decide) ?_
              refine z_istore_n hC (pc := 77) (lv' := [(2, iv 0), (1, iv 32), (0, .ref (κ 0))]) dX14_delimiter_77 rfl (by decide) rfl ?_
              refine z_iload_n hC (pc := 78) 0 dX14_delimiter_78 rfl rfl ?_
              refine y_if_eq hC (pc := 79) 91 (r_lit rfl) dX14_delimiter_79 (by decide) (fun _ => ?_) (fun c => absurd c (by decide))
              refine z_iload_n hC (pc := 91) 1 dX14_delimiter_91 rfl rfl ?_
              exact y_reti hR dX14_delimiter_92 rfl (r_lit rfl) Ws1 (Nat.le_of_ble_eq_true rfl) (Nat.le_of_ble_eq_true rfl) ⟨(rKeep.tr rKeep.rf qs1.1 rfl rfl rfl rfl rfl), h⟩
            · have h := hF c
              refine z_iconst hC (pc := 72) (v := Int32.ofInt 1) dX14_delimiter_72 (by decide) ?_
              refine z_goto hC (pc := 73) 77 dX14_delimiter_73 (by decide) ?_
              refine z_istore_n hC (pc := 77) (lv' := [(2, iv 1), (1, iv 32), (0, .ref (κ 0))]) dX14_delimiter_77 rfl (by decide) rfl ?_
              refine z_iload_n hC (pc := 78) 0 dX14_delimiter_78 rfl rfl ?_
              refine y_if_eq hC (pc := 79) 91 (r_lit rfl) dX14_delimiter_79 (by decide) (fun c => absurd c (by decide)) (fun _ => ?_)
              refine z_aload_n hC (pc := 82) 2 dX14_delimiter_82 rfl rfl ?_
              refine z_iconst hC (pc := 83) (v := Int32.ofInt 2) dX14_delimiter_83 (by decide) ?_
              refine z_aload_n hC (pc := 84) 2 dX14_delimiter_84 rfl rfl ?_
              refine y_get hC (pc := 85) zf14 rOb_0 21 (v := iv (rF s1 0 21)) dX14_delimiter_85 zw2488 (rv_i (Or.inl rfl) rfl) (kk := ?_)
              have h := h (Ws1.f _ _)
              obtain ⟨p19, h⟩ := h
              refine y_callVv hC (pc := 88) (As := [iv 2, iv (rF s1 0 21)]) (kX14_bad l G κ s1 2 (rF s1 0 21) Ws1 (r_lit rfl) (Ws1.f _ _) p19) dmX14_bad zf14 rOb_0 dX14_delimiter_88 zw3000 rfl rfl (Nat.le_of_ble_eq_true rfl) (Nat.le_of_ble_eq_true rfl) (Nat.le_of_ble_eq_true rfl) (Nat.le_of_ble_eq_true rfl) (Nat.le_of_ble_eq_true rfl) (kk := fun s88 Ws88 qs88 => ?_)
              have h := h s88 Ws88 (qs88.1.R rfl) (qs88.1.F rfl) (qs88.1.F rfl) (qs88.1.F rfl) (qs88.1.F rfl) (qs88.1.F rfl) (fun _ _ hp => qs88.1.FL hp) qs88.2
              refine z_iload_n hC (pc := 91) 1 dX14_delimiter_91 rfl rfl ?_
              exact y_reti hR dX14_delimiter_92 rfl (r_lit rfl) Ws88 (Nat.le_of_ble_eq_true rfl) (Nat.le_of_ble_eq_true rfl) ⟨(rKeep.tr (rKeep.tr rKeep.rf qs1.1 rfl rfl rfl rfl rfl) qs88.1 rfl rfl rfl rfl rfl), h⟩
    · have h := hF c
      refine z_aload_n hC (pc := 26) 0 dX14_delimiter_26 rfl rfl ?_
      obtain ⟨g20, h⟩ := h
      refine y_get hC (pc := 27) zf14 rOb_0 15 (v := .ref (κ (rR σ 15))) dX14_delimiter_27 zw2482 (rv_b rfl ((qs1.1.R rfl).trans rfl) g20) (kk := ?_)
      refine z_aload_n hC (pc := 30) 0 dX14_delimiter_30 rfl rfl ?_
      refine y_get hC (pc := 31) zf14 rOb_0 22 (v := iv (rF s1 0 22)) dX14_delimiter_31 zw2489 (rv_i (Or.inl rfl) rfl) (kk := ?_)
      obtain ⟨b21, h⟩ := h
      refine y_bald hC (pc := 34) (rAr_f g20) dX14_delimiter_34 b21 (v := (rA s1 (rR σ 15) (rF s1 0 22))) rfl (kk := ?_)
      have h := h (Ws1.a _ _)
      refine z_goto hC (pc := 35) 40 dX14_delimiter_35 (by decide) ?_
      refine z_istore_n hC (pc := 40) (lv' := [(1, iv (rA s1 (rR σ 15) (rF s1 0 22))), (0, .ref (κ 0))]) dX14_delimiter_40 rfl (by decide) rfl ?_
      refine z_iload_n hC (pc := 41) 0 dX14_delimiter_41 rfl rfl ?_
      obtain ⟨p22, h⟩ := h
      refine y_callSi hC (pc := 42) (As := [iv (rA s1 (rR σ 15) (rF s1 0 22))]) (kX14_isLetter l G κ s1 (rA s1 (rR σ 15) (rF s1 0 22)) Ws1 (Ws1.a _ _) p22) dmX14_isLetter dX14_delimiter_42 zw3012 rfl rfl (Nat.le_of_ble_eq_true rfl) (Nat.le_of_ble_eq_true rfl) (Nat.le_of_ble_eq_true rfl) (Nat.le_of_ble_eq_true rfl) (Nat.le_of_ble_eq_true rfl) (kk := fun v42 s42 hv42 Ws42 qs42 => ?_)
      obtain ⟨es42, qs42⟩ := qs42
      have es42 := es42.symm
      subst es42
      have h := h v42 hv42 qs42
      obtain ⟨hT, hF⟩ := h
      refine y_if_ne hC (pc := 45) 72 hv42 dX14_delimiter_45 (by decide) (fun c => ?_) (fun c => ?_)
      · have h := hT c
        refine z_iconst hC (pc := 72) (v := Int32.ofInt 1) dX14_delimiter_72 (by decide) ?_
        refine z_goto hC (pc := 73) 77 dX14_delimiter_73 (by decide) ?_
        refine z_istore_n hC (pc := 77) (lv' := [(2, iv 1), (1, iv (rA s1 (rR σ 15) (rF s1 0 22))), (0, .ref (κ 0))]) dX14_delimiter_77 rfl (by decide) rfl ?_
        refine z_iload_n hC (pc := 78) 0 dX14_delimiter_78 rfl rfl ?_
        refine y_if_eq hC (pc := 79) 91 (r_lit rfl) dX14_delimiter_79 (by decide) (fun c => absurd c (by decide)) (fun _ => ?_)
        refine z_aload_n hC (pc := 82) 2 dX14_delimiter_82 rfl rfl ?_
        refine z_iconst hC (pc := 83) (v := Int32.ofInt 2) dX14_delimiter_83 (by decide) ?_
        refine z_aload_n hC (pc := 84) 2 dX14_delimiter_84 rfl rfl ?_
        refine y_get hC (pc := 85) zf14 rOb_0 21 (v := iv (rF s1 0 21)) dX14_delimiter_85 zw2488 (rv_i (Or.inl rfl) rfl) (kk := ?_)
        have h := h (Ws1.f _ _)
        obtain ⟨p23, h⟩ := h
        refine y_callVv hC (pc := 88) (As := [iv 2, iv (rF s1 0 21)]) (kX14_bad l G κ s1 2 (rF s1 0 21) Ws1 (r_lit rfl) (Ws1.f _ _) p23) dmX14_bad zf14 rOb_0 dX14_delimiter_88 zw3000 rfl rfl (Nat.le_of_ble_eq_true rfl) (Nat.le_of_ble_eq_true rfl) (Nat.le_of_ble_eq_true rfl) (Nat.le_of_ble_eq_true rfl) (Nat.le_of_ble_eq_true rfl) (kk := fun s88 Ws88 qs88 => ?_)
        have h := h s88 Ws88 (qs88.1.R rfl) (qs88.1.F rfl) (qs88.1.F rfl) (qs88.1.F rfl) (qs88.1.F rfl) (qs88.1.F rfl) (fun _ _ hp => qs88.1.FL hp) qs88.2
        refine z_iload_n hC (pc := 91) 1 dX14_delimiter_91 rfl rfl ?_
        exact y_reti hR dX14_delimiter_92 rfl (Ws1.a _ _) Ws88 (Nat.le_of_ble_eq_true rfl) (Nat.le_of_ble_eq_true rfl) ⟨(rKeep.tr (rKeep.tr rKeep.rf qs1.1 rfl rfl rfl rfl rfl) qs88.1 rfl rfl rfl rfl rfl), h⟩
      · have h := hF c
        refine z_iload_n hC (pc := 48) 0 dX14_delimiter_48 rfl rfl ?_
        obtain ⟨p24, h⟩ := h
        refine y_callSi hC (pc := 49) (As := [iv (rA s1 (rR σ 15) (rF s1 0 22))]) (kX14_isDigit l G κ s1 (rA s1 (rR σ 15) (rF s1 0 22)) Ws1 (Ws1.a _ _) p24) dmX14_isDigit dX14_delimiter_49 zw3015 rfl rfl (Nat.le_of_ble_eq_true rfl) (Nat.le_of_ble_eq_true rfl) (Nat.le_of_ble_eq_true rfl) (Nat.le_of_ble_eq_true rfl) (Nat.le_of_ble_eq_true rfl) (kk := fun v49 s49 hv49 Ws49 qs49 => ?_)
        obtain ⟨es49, qs49⟩ := qs49
        have es49 := es49.symm
        subst es49
        have h := h v49 hv49 qs49
        obtain ⟨hT, hF⟩ := h
        refine y_if_ne hC (pc := 52) 72 hv49 dX14_delimiter_52 (by decide) (fun c => ?_) (fun c => ?_)
        · have h := hT c
          refine z_iconst hC (pc := 72) (v := Int32.ofInt 1) dX14_delimiter_72 (by decide) ?_
          refine z_goto hC (pc := 73) 77 dX14_delimiter_73 (by decide) ?_
          refine z_istore_n hC (pc := 77) (lv' := [(2, iv 1), (1, iv (rA s1 (rR σ 15) (rF s1 0 22))), (0, .ref (κ 0))]) dX14_delimiter_77 rfl (by decide) rfl ?_
          refine z_iload_n hC (pc := 78) 0 dX14_delimiter_78 rfl rfl ?_
          refine y_if_eq hC (pc := 79) 91 (r_lit rfl) dX14_delimiter_79 (by decide) (fun c => absurd c (by decide)) (fun _ => ?_)
          refine z_aload_n hC (pc := 82) 2 dX14_delimiter_82 rfl rfl ?_
          refine z_iconst hC (pc := 83) (v := Int32.ofInt 2) dX14_delimiter_83 (by decide) ?_
          refine z_aload_n hC (pc := 84) 2 dX14_delimiter_84 rfl rfl ?_
          refine y_get hC (pc := 85) zf14 rOb_0 21 (v := iv (rF s1 0 21)) dX14_delimiter_85 zw2488 (rv_i (Or.inl rfl) rfl) (kk := ?_)
          have h := h (Ws1.f _ _)
          obtain ⟨p25, h⟩ := h
          refine y_callVv hC (pc := 88) (As := [iv 2, iv (rF s1 0 21)]) (kX14_bad l G κ s1 2 (rF s1 0 21) Ws1 (r_lit rfl) (Ws1.f _ _) p25) dmX14_bad zf14 rOb_0 dX14_delimiter_88 zw3000 rfl rfl (Nat.le_of_ble_eq_true rfl) (Nat.le_of_ble_eq_true rfl) (Nat.le_of_ble_eq_true rfl) (Nat.le_of_ble_eq_true rfl) (Nat.le_of_ble_eq_true rfl) (kk := fun s88 Ws88 qs88 => ?_)
          have h := h s88 Ws88 (qs88.1.R rfl) (qs88.1.F rfl) (qs88.1.F rfl) (qs88.1.F rfl) (qs88.1.F rfl) (qs88.1.F rfl) (fun _ _ hp => qs88.1.FL hp) qs88.2
          refine z_iload_n hC (pc := 91) 1 dX14_delimiter_91 rfl rfl ?_
          exact y_reti hR dX14_delimiter_92 rfl (Ws1.a _ _) Ws88 (Nat.le_of_ble_eq_true rfl) (Nat.le_of_ble_eq_true rfl) ⟨(rKeep.tr (rKeep.tr rKeep.rf qs1.1 rfl rfl rfl rfl rfl) qs88.1 rfl rfl rfl rfl rfl), h⟩
        · have h := hF c
          refine z_iload_n hC (pc := 55) 0 dX14_delimiter_55 rfl rfl ?_
          obtain ⟨p26, h⟩ := h
          refine y_callSi hC (pc := 56) (As := [iv (rA s1 (rR σ 15) (rF s1 0 22))]) (kX14_isBlank l G κ s1 (rA s1 (rR σ 15) (rF s1 0 22)) Ws1 (Ws1.a _ _) p26) dmX14_isBlank dX14_delimiter_56 zw2997 rfl rfl (Nat.le_of_ble_eq_true rfl) (Nat.le_of_ble_eq_true rfl) (Nat.le_of_ble_eq_true rfl) (Nat.le_of_ble_eq_true rfl) (Nat.le_of_ble_eq_true rfl) (kk := fun v56 s56 hv56 Ws56 qs56 => ?_)
          obtain ⟨es56, qs56⟩ := qs56
          have es56 := es56.symm
          subst es56
          have h := h v56 hv56 qs56
          obtain ⟨hT, hF⟩ := h
          refine y_if_ne hC (pc := 59) 72 hv56 dX14_delimiter_59 (by decide) (fun c => ?_) (fun c => ?_)
          · have h := hT c
            refine z_iconst hC (pc := 72) (v := Int32.ofInt 1) dX14_delimiter_72 (by decide) ?_
            refine z_goto hC (pc := 73) 77 dX14_delimiter_73 (by decide) ?_
            refine z_istore_n hC (pc := 77) (lv' := [(2, iv 1), (1, iv (rA s1 (rR σ 15) (rF s1 0 22))), (0, .ref (κ 0))]) dX14_delimiter_77 rfl (by decide) rfl ?_
            refine z_iload_n hC (pc := 78) 0 dX14_delimiter_78 rfl rfl ?_
            refine y_if_eq hC (pc := 79) 91 (r_lit rfl) dX14_delimiter_79 (by decide) (fun c => absurd c (by decide)) (fun _ => ?_)
            refine z_aload_n hC (pc := 82) 2 dX14_delimiter_82 rfl rfl ?_
            refine z_iconst hC (pc := 83) (v := Int32.ofInt 2) dX14_delimiter_83 (by decide) ?_
            refine z_aload_n hC (pc := 84) 2 dX14_delimiter_84 rfl rfl ?_
            refine y_get hC (pc := 85) zf14 rOb_0 21 (v := iv (rF s1 0 21)) dX14_delimiter_85 zw2488 (rv_i (Or.inl rfl) rfl) (kk := ?_)
            have h := h (Ws1.f _ _)
            obtain ⟨p27, h⟩ := h
            refine y_callVv hC (pc := 88) (As := [iv 2, iv (rF s1 0 21)]) (kX14_bad l G κ s1 2 (rF s1 0 21) Ws1 (r_lit rfl) (Ws1.f _ _) p27) dmX14_bad zf14 rOb_0 dX14_delimiter_88 zw3000 rfl rfl (Nat.le_of_ble_eq_true rfl) (Nat.le_of_ble_eq_true rfl) (Nat.le_of_ble_eq_true rfl) (Nat.le_of_ble_eq_true rfl) (Nat.le_of_ble_eq_true rfl) (kk := fun s88 Ws88 qs88 => ?_)
            have h := h s88 Ws88 (qs88.1.R rfl) (qs88.1.F rfl) (qs88.1.F rfl) (qs88.1.F rfl) (qs88.1.F rfl) (qs88.1.F rfl) (fun _ _ hp => qs88.1.FL hp) qs88.2
            refine z_iload_n hC (pc := 91) 1 dX14_delimiter_91 rfl rfl ?_
            exact y_reti hR dX14_delimiter_92 rfl (Ws1.a _ _) Ws88 (Nat.le_of_ble_eq_true rfl) (Nat.le_of_ble_eq_true rfl) ⟨(rKeep.tr (rKeep.tr rKeep.rf qs1.1 rfl rfl rfl rfl rfl) qs88.1 rfl rfl rfl rfl rfl), h⟩
          · have h := hF c
            refine z_ldcSw hC (pc := 62) dX14_delimiter_62 zS_29 ?_
            refine z_iload_n hC (pc := 65) 0 dX14_delimiter_65 rfl rfl ?_
            refine y_sidx hC (pc := 66) (i := (rA s1 (rR σ 15) (rF s1 0 22))) (rSt_29 G) dX14_delimiter_66 zw3032 (Nat.le_of_ble_eq_true rfl) (Nat.le_of_ble_eq_true rfl) (Nat.le_of_ble_eq_true rfl) (Nat.le_of_ble_eq_true rfl) (Nat.le_of_ble_eq_true rfl) (fun x28 hx28 => ?_)
            have h := h x28 hx28
            obtain ⟨hT, hF⟩ := h
            refine y_if_lt hC (pc := 69) 76 hx28 dX14_delimiter_69 (by decide) (fun c => ?_) (fun c => ?_)
            · have h := hT c
              refine z_iconst hC (pc := 76) (v := Int32.ofInt 0) dX14_delimiter_76 (by decide) ?_
              refine z_istore_n hC (pc := 77) (lv' := [(2, iv 0), (1, iv (rA s1 (rR σ 15) (rF s1 0 22))), (0, .ref (κ 0))]) dX14_delimiter_77 rfl (by decide) rfl ?_
              refine z_iload_n hC (pc := 78) 0 dX14_delimiter_78 rfl rfl ?_
              refine y_if_eq hC (pc := 79) 91 (r_lit rfl) dX14_delimiter_79 (by decide) (fun _ => ?_) (fun c => absurd c (by decide))
              refine z_iload_n hC (pc := 91) 1 dX14_delimiter_91 rfl rfl ?_
              exact y_reti hR dX14_delimiter_92 rfl (Ws1.a _ _) Ws1 (Nat.le_of_ble_eq_true rfl) (Nat.le_of_ble_eq_true rfl) ⟨(rKeep.tr rKeep.rf qs1.1 rfl rfl rfl rfl rfl), h⟩
            · have h := hF c
              refine z_iconst hC (pc := 72) (v := Int32.ofInt 1) dX14_delimiter_72 (by decide) ?_
              refine z_goto hC (pc := 73) 77 dX14_delimiter_73 (by decide) ?_
              refine z_istore_n hC (pc := 77) (lv' := [(2, iv 1), (1, iv (rA s1 (rR σ 15) (rF s1 0 22))), (0, .ref (κ 0))]) dX14_delimiter_77 rfl (by decide) rfl ?_
              refine z_iload_n hC (pc := 78) 0 dX14_delimiter_78 rfl rfl ?_
              refine y_if_eq hC (pc := 79) 91 (r_lit rfl) dX14_delimiter_79 (by decide) (fun c => absurd c (by decide)) (fun _ => ?_)
              refine z_aload_n hC (pc := 82) 2 dX14_delimiter_82 rfl rfl ?_
              refine z_iconst hC (pc := 83) (v := Int32.ofInt 2) dX14_delimiter_83 (by decide) ?_
              refine z_aload_n hC (pc := 84) 2 dX14_delimiter_84 rfl rfl ?_
              refine y_get hC (pc := 85) zf14 rOb_0 21 (v := iv (rF s1 0 21)) dX14_delimiter_85 zw2488 (rv_i (Or.inl rfl) rfl) (kk := ?_)
              have h := h (Ws1.f _ _)
              obtain ⟨p29, h⟩ := h
              refine y_callVv hC (pc := 88) (As := [iv 2, iv (rF s1 0 21)]) (kX14_bad l G κ s1 2 (rF s1 0 21) Ws1 (r_lit rfl) (Ws1.f _ _) p29) dmX14_bad zf14 rOb_0 dX14_delimiter_88 zw3000 rfl rfl (Nat.le_of_ble_eq_true rfl) (Nat.le_of_ble_eq_true rfl) (Nat.le_of_ble_eq_true rfl) (Nat.le_of_ble_eq_true rfl) (Nat.le_of_ble_eq_true rfl) (kk := fun s88 Ws88 qs88 => ?_)
              have h := h s88 Ws88 (qs88.1.R rfl) (qs88.1.F rfl) (qs88.1.F rfl) (qs88.1.F rfl) (qs88.1.F rfl) (qs88.1.F rfl) (fun _ _ hp => qs88.1.FL hp) qs88.2
              refine z_iload_n hC (pc := 91) 1 dX14_delimiter_91 rfl rfl ?_
              exact y_reti hR dX14_delimiter_92 rfl (Ws1.a _ _) Ws88 (Nat.le_of_ble_eq_true rfl) (Nat.le_of_ble_eq_true rfl) ⟨(rKeep.tr (rKeep.tr rKeep.rf qs1.1 rfl rfl rfl rfl rfl) qs88.1 rfl rfl rfl rfl rfl), h⟩
  · have h := hF c
    refine z_iconst hC (pc := 11) (v := Int32.ofInt 0) dX14_delimiter_11 (by decide) ?_
    exact y_reti hR dX14_delimiter_12 rfl (r_lit rfl) Ws1 (Nat.le_of_ble_eq_true rfl) (Nat.le_of_ble_eq_true rfl) ⟨(rKeep.tr rKeep.rf qs1.1 rfl rfl rfl rfl rfl), h⟩
theorem kX14_delimiter_f (l : Launch) (G : zG) (κ : Nat → Nat) (σ : rS) (hwf : rWF σ) (hp : pre_X14_delimiter_f σ ) : rMi l G κ yX14_delimiter cX14_delimiter 3 .int 5 121 [.ref (κ 0)] σ (fun x s => rKeep 0xe21c00 0 0 0 0 σ s ∧ post_X14_delimiter_f σ x s) := wX14_delimiter_f l G κ σ hwf (post_X14_delimiter_f σ ) (vX14_delimiter_f σ hwf hp) 
