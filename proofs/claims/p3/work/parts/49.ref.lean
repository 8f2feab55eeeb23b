theorem zw2363 : Cond.fieldLink "TemplateHouseModel$Group" 142 "TemplateHouseModel$Group" "first" "I" ∈ zT := zsub10 203 (by decide +kernel) (by decide +kernel)
theorem zw2341 : Cond.fieldLink "TemplateHouseModel$Group" 51 "TemplateHouseModel$Group" "defOther" "[I" ∈ zT := zsub10 181 (by decide +kernel) (by decide +kernel)
theorem zw3365 : Cond.code ⟨"TemplateHouseModel$Group", "above", "(II)I"⟩ prog_16_method_9_code 5 (Option.some Jvm.ClassFile.FieldType.int) ∈ zT := zsub15 5 rfl rfl
theorem zw3363 : Cond.instanceMethod ⟨"TemplateHouseModel$Group", "above", "(II)I"⟩ ∈ zT := zsub15 3 (by decide +kernel) (by decide +kernel)
theorem zw3364 : Cond.selects "TemplateHouseModel$Group" ⟨"TemplateHouseModel$Group", "above", "(II)I"⟩ ⟨"TemplateHouseModel$Group", "above", "(II)I"⟩ ∈ zT := zsub15 4 (by decide +kernel) (by decide +kernel)
theorem zw3374 : Cond.code ⟨"TemplateHouseModel$Group", "template", "(I)I"⟩ prog_16_method_10_code 4 (Option.some Jvm.ClassFile.FieldType.int) ∈ zT := zsub15 14 rfl rfl
theorem zw3372 : Cond.instanceMethod ⟨"TemplateHouseModel$Group", "template", "(I)I"⟩ ∈ zT := zsub15 12 (by decide +kernel) (by decide +kernel)
theorem zw3373 : Cond.selects "TemplateHouseModel$Group" ⟨"TemplateHouseModel$Group", "template", "(I)I"⟩ ⟨"TemplateHouseModel$Group", "template", "(I)I"⟩ ∈ zT := zsub15 13 (by decide +kernel) (by decide +kernel)
abbrev cX13_above : ByteArray := prog_16_method_9_code
abbrev yX13_above : MethodName := ⟨"TemplateHouseModel$Group", "above", "(II)I"⟩
theorem dmX13_above : zDv yX13_above cX13_above 5 (some .int) 2 := ⟨⟨⟨by decide +kernel, by decide +kernel, by decide +kernel⟩, zw3365, zw15⟩, zw3363, zw3364⟩
abbrev cX13_template : ByteArray := prog_16_method_10_code
abbrev yX13_template : MethodName := ⟨"TemplateHouseModel$Group", "template", "(I)I"⟩
theorem dmX13_template : zDv yX13_template cX13_template 4 (some .int) 1 := ⟨⟨⟨by decide +kernel, by decide +kernel, by decide +kernel⟩, zw3374, zw15⟩, zw3372, zw3373⟩
theorem dX13_above_0 : decode cX13_above 0 = .ok (.iconst (-1), 1) := by decide +kernel
theorem dX13_above_1 : decode cX13_above 1 = .ok (.istore_n 3, 1) := by decide +kernel
theorem dX13_above_2 : decode cX13_above 2 = .ok (.iconst 0, 1) := by decide +kernel
theorem dX13_above_3 : decode cX13_above 3 = .ok (.istore 4, 2) := by decide +kernel
theorem dX13_above_5 : decode cX13_above 5 = .ok (.iload 4, 2) := by decide +kernel
theorem dX13_above_7 : decode cX13_above 7 = .ok (.aload_n 0, 1) := by decide +kernel
theorem dX13_above_8 : decode cX13_above 8 = .ok (.getfield 78, 3) := by decide +kernel
theorem dX13_above_11 : decode cX13_above 11 = .ok (.iload_n 1, 1) := by decide +kernel
theorem dX13_above_12 : decode cX13_above 12 = .ok (.iaload, 1) := by decide +kernel
theorem dX13_above_13 : decode cX13_above 13 = .ok (.if_icmp .ge 33, 3) := by decide +kernel
theorem dX13_above_46 : decode cX13_above 46 = .ok (.iload_n 3, 1) := by decide +kernel
theorem dX13_above_47 : decode cX13_above 47 = .ok (.ireturn, 1) := by decide +kernel
theorem dX13_above_16 : decode cX13_above 16 = .ok (.iload_n 3, 1) := by decide +kernel
theorem dX13_above_17 : decode cX13_above 17 = .ok (.ifCond .ge 29, 3) := by decide +kernel
theorem dX13_above_20 : decode cX13_above 20 = .ok (.aload_n 0, 1) := by decide +kernel
theorem dX13_above_21 : decode cX13_above 21 = .ok (.aload_n 0, 1) := by decide +kernel
theorem dX13_above_22 : decode cX13_above 22 = .ok (.getfield 75, 3) := by decide +kernel
theorem dX13_above_25 : decode cX13_above 25 = .ok (.sipush 500, 3) := by decide +kernel
theorem dX13_above_28 : decode cX13_above 28 = .ok (.iload_n 1, 1) := by decide +kernel
theorem dX13_above_29 : decode cX13_above 29 = .ok (.imul, 1) := by decide +kernel
theorem dX13_above_30 : decode cX13_above 30 = .ok (.iload 4, 2) := by decide +kernel
theorem dX13_above_32 : decode cX13_above 32 = .ok (.iadd, 1) := by decide +kernel
theorem dX13_above_33 : decode cX13_above 33 = .ok (.iaload, 1) := by decide +kernel
theorem dX13_above_34 : decode cX13_above 34 = .ok (.iload_n 2, 1) := by decide +kernel
theorem dX13_above_35 : decode cX13_above 35 = .ok (.iconst 0, 1) := by decide +kernel
theorem dX13_above_36 : decode cX13_above 36 = .ok (.invokevirtual 139, 3) := by decide +kernel
theorem dX13_above_39 : decode cX13_above 39 = .ok (.istore_n 3, 1) := by decide +kernel
theorem dX13_above_40 : decode cX13_above 40 = .ok (.iinc 4 1, 3) := by decide +kernel
theorem dX13_above_43 : decode cX13_above 43 = .ok (.goto (-38), 3) := by decide +kernel
theorem dX13_template_0 : decode cX13_template 0 = .ok (.iload_n 1, 1) := by decide +kernel
theorem dX13_template_1 : decode cX13_template 1 = .ok (.istore_n 2, 1) := by decide +kernel
theorem dX13_template_2 : decode cX13_template 2 = .ok (.iconst 0, 1) := by decide +kernel
theorem dX13_template_3 : decode cX13_template 3 = .ok (.istore_n 3, 1) := by decide +kernel
theorem dX13_template_4 : decode cX13_template 4 = .ok (.iload_n 3, 1) := by decide +kernel
theorem dX13_template_5 : decode cX13_template 5 = .ok (.sipush 400, 3) := by decide +kernel
theorem dX13_template_8 : decode cX13_template 8 = .ok (.if_icmp .ge 39, 3) := by decide +kernel
theorem dX13_template_47 : decode cX13_template 47 = .ok (.iload_n 2, 1) := by decide +kernel
theorem dX13_template_48 : decode cX13_template 48 = .ok (.ifCond .lt 16, 3) := by decide +kernel
theorem dX13_template_64 : decode cX13_template 64 = .ok (.iconst (-1), 1) := by decide +kernel
theorem dX13_template_65 : decode cX13_template 65 = .ok (.ireturn, 1) := by decide +kernel
theorem dX13_template_51 : decode cX13_template 51 = .ok (.aload_n 0, 1) := by decide +kernel
theorem dX13_template_52 : decode cX13_template 52 = .ok (.getfield 45, 3) := by decide +kernel
theorem dX13_template_55 : decode cX13_template 55 = .ok (.iload_n 2, 1) := by decide +kernel
theorem dX13_template_56 : decode cX13_template 56 = .ok (.iaload, 1) := by decide +kernel
theorem dX13_template_57 : decode cX13_template 57 = .ok (.ifCond .ne 7, 3) := by decide +kernel
theorem dX13_template_60 : decode cX13_template 60 = .ok (.iload_n 2, 1) := by decide +kernel
theorem dX13_template_61 : decode cX13_template 61 = .ok (.goto 4, 3) := by decide +kernel
theorem dX13_template_11 : decode cX13_template 11 = .ok (.iload_n 2, 1) := by decide +kernel
theorem dX13_template_12 : decode cX13_template 12 = .ok (.ifCond .lt 35, 3) := by decide +kernel
theorem dX13_template_15 : decode cX13_template 15 = .ok (.aload_n 0, 1) := by decide +kernel
theorem dX13_template_16 : decode cX13_template 16 = .ok (.getfield 45, 3) := by decide +kernel
theorem dX13_template_19 : decode cX13_template 19 = .ok (.iload_n 2, 1) := by decide +kernel
theorem dX13_template_20 : decode cX13_template 20 = .ok (.iaload, 1) := by decide +kernel
theorem dX13_template_21 : decode cX13_template 21 = .ok (.iconst 2, 1) := by decide +kernel
theorem dX13_template_22 : decode cX13_template 22 = .ok (.if_icmp .ne 25, 3) := by decide +kernel
theorem dX13_template_25 : decode cX13_template 25 = .ok (.aload_n 0, 1) := by decide +kernel
theorem dX13_template_26 : decode cX13_template 26 = .ok (.aload_n 0, 1) := by decide +kernel
theorem dX13_template_27 : decode cX13_template 27 = .ok (.getfield 142, 3) := by decide +kernel
theorem dX13_template_30 : decode cX13_template 30 = .ok (.aload_n 0, 1) := by decide +kernel
theorem dX13_template_31 : decode cX13_template 31 = .ok (.getfield 51, 3) := by decide +kernel
theorem dX13_template_34 : decode cX13_template 34 = .ok (.iload_n 2, 1) := by decide +kernel
theorem dX13_template_35 : decode cX13_template 35 = .ok (.iaload, 1) := by decide +kernel
theorem dX13_template_36 : decode cX13_template 36 = .ok (.iconst 0, 1) := by decide +kernel
theorem dX13_template_37 : decode cX13_template 37 = .ok (.invokevirtual 139, 3) := by decide +kernel
theorem dX13_template_40 : decode cX13_template 40 = .ok (.istore_n 2, 1) := by decide +kernel
theorem dX13_template_41 : decode cX13_template 41 = .ok (.iinc 3 1, 3) := by decide +kernel
theorem dX13_template_44 : decode cX13_template 44 = .ok (.goto (-40), 3) := by decide +kernel
def pre_X13_above (σ : rS) (k : Nat) (x1 : Int) (x2 : Int) (o : Int → Nat) : Prop := rIM σ k o ∧ 0 ≤ x1 ∧ x1 ≤ 7
def post_X13_above (σ : rS) (k : Nat) (x1 : Int) (x2 : Int) (o : Int → Nat) (r : Int) : Prop := r = -1 ∨ (0 ≤ r ∧ r < 320)
def inv_X13_above_5 (σ : rS) (k : Nat) (x1 : Int) (x2 : Int) (o : Int → Nat)  (s : rS) (it : Int) (kk : Int) : Prop := 0 ≤ kk ∧ kk ≤ 8 ∧ (it = -1 ∨ (0 ≤ it ∧ it < 320))
def mu_X13_above_5 (σ : rS) (k : Nat) (x1 : Int) (x2 : Int) (o : Int → Nat) (s : rS) (it : Int) (kk : Int) : Nat := (1 + (8 - kk).toNat)
def VC_X13_above (σ : rS) (k : Nat) (x1 : Int) (x2 : Int) (o : Int → Nat) (Q : Int → Prop) : Prop := (inv_X13_above_5 σ k x1 x2 o σ (-1) 0)
def VC_X13_above_5 (σ : rS) (k : Nat) (x1 : Int) (x2 : Int) (o : Int → Nat) (Q : Int → Prop) : Prop := ∀ (y10 : Int) (y11 : Int), rng y10 → rng y11 → inv_X13_above_5 σ k x1 x2 o σ y10 y11 → ((0 ≤ x1 ∧ x1 < 8) ∧ (rng (rA σ (1000 * (k + 1) + 26) x1) → (((rA σ (1000 * (k + 1) + 26) x1) ≤ y11 → Q y10) ∧ (¬ (rA σ (1000 * (k + 1) + 26) x1) ≤ y11 → ((0 ≤ y10 → Q y10) ∧ (¬ 0 ≤ y10 → (0 ≤ ((500 * x1) + y11) ∧ ((500 * x1) + y11) < 4000) ∧ (rng (rA σ (1000 * (k + 1) + 25) ((500 * x1) + y11)) → pre_X13_has σ k (rA σ (1000 * (k + 1) + 25) ((500 * x1) + y11)) x2 0 o ∧ rk_X13_has σ k (rA σ (1000 * (k + 1) + 25) ((500 * x1) + y11)) x2 0 o ≤ 40 ∧ (∀ (x17 : Int), rng x17 → post_X13_has σ k (rA σ (1000 * (k + 1) + 25) ((500 * x1) + y11)) x2 0 o x17 → rng (y11 + 1) ∧ (inv_X13_above_5 σ k x1 x2 o σ x17 (y11 + 1) ∧ (mu_X13_above_5 σ k x1 x2 o σ x17 (y11 + 1)) < (mu_X13_above_5 σ k x1 x2 o σ y10 y11))))))))))
def VC_X13_above_5m (σ : rS) (k : Nat) (x1 : Int) (x2 : Int) (o : Int → Nat) : Prop := ∀ (y10 : Int) (y11 : Int), rng y10 → rng y11 → inv_X13_above_5 σ k x1 x2 o σ y10 y11 → 0 < (mu_X13_above_5 σ k x1 x2 o σ y10 y11)
set_option maxHeartbeats 400000 in
theorem vX13_above (σ : rS) (k : Nat) (x1 : Int) (x2 : Int) (o : Int → Nat) (hwf : rWF σ) (hk : rgk k) (hx1 : rng x1) (hx2 : rng x2) (hp : pre_X13_above σ k x1 x2 o) : VC_X13_above σ k x1 x2 o (post_X13_above σ k x1 x2 o) := by
  simp only [VC_X13_above, pre_X13_above, post_X13_above, inv_X13_above_5, mu_X13_above_5, pre_X13_has, post_X13_has, rIM, rk_X13_has, rng, rfk, rNMp, rF_sF, rF_sA, rF_sL, rF_sR, rA_sA, rA_sF, rA_sL, rA_sR, rR_sF, rR_sA, rR_sL, rR_sR, reduceIte, and_true, true_and, and_false, false_and, and_self] at *
  (repeat' (first | with_reducible intro _ | with_reducible apply And.intro))
  all_goals (first | assumption | omega | grind (splits := 20) [rNM_sF0])
set_option maxHeartbeats 400000 in
theorem vX13_above_5 (σ : rS) (k : Nat) (x1 : Int) (x2 : Int) (o : Int → Nat) (hwf : rWF σ) (hk : rgk k) (hx1 : rng x1) (hx2 : rng x2) (hp : pre_X13_above σ k x1 x2 o) : VC_X13_above_5 σ k x1 x2 o (post_X13_above σ k x1 x2 o) := by
  simp only [VC_X13_above_5, pre_X13_above, post_X13_above, inv_X13_above_5, mu_X13_above_5, pre_X13_has, post_X13_has, rIM, rk_X13_has, rng, rfk, rNMp, rF_sF, rF_sA, rF_sL, rF_sR, rA_sA, rA_sF, rA_sL, rA_sR, rR_sF, rR_sA, rR_sL, rR_sR, reduceIte, and_true, true_and, and_false, false_and, and_self] at *
  (repeat' (first | with_reducible intro _ | with_reducible apply And.intro))
  all_goals (first | assumption | omega | grind (splits := 20) [rNM_sF0])
set_option maxHeartbeats 400000 in
theorem vX13_above_5m (σ : rS) (k : Nat) (x1 : Int) (x2 : Int) (o : Int → Nat) (hwf : rWF σ) (hk : rgk k) (hx1 : rng x1) (hx2 : rng x2) (hp : pre_X13_above σ k x1 x2 o) : VC_X13_above_5m σ k x1 x2 o := by
  simp only [VC_X13_above_5m, pre_X13_above, post_X13_above, inv_X13_above_5, mu_X13_above_5, pre_X13_has, post_X13_has, rIM, rk_X13_has, rng, rfk, rNMp, rF_sF, rF_sA, rF_sL, rF_sR, rA_sA, rA_sF, rA_sL, rA_sR, rR_sF, rR_sA, rR_sL, rR_sR, reduceIte, and_true, true_and, and_false, false_and, and_self] at *
  (repeat' (first | with_reducible intro _ | with_reducible apply And.intro))
  all_goals (first | assumption | omega | grind (splits := 20) [rNM_sF0])
theorem wX13_above (l : Launch) (G : zG) (κ : Nat → Nat) (σ : rS) (k : Nat) (x1 : Int) (x2 : Int) (o : Int → Nat) (hwf : rWF σ) (hk : rgk k) (hx1 : rng x1) (hx2 : rng x2) (Q : Int → Prop) (h : VC_X13_above σ k x1 x2 o Q) (h_5 : VC_X13_above_5 σ k x1 x2 o Q) (h_5m : VC_X13_above_5m σ k x1 x2 o) : rMi l G κ yX13_above cX13_above 5 .int 61 2225 [.ref (κ k), iv x1, iv x2] σ (fun x s => s = σ ∧ Q x) := by
  refine zMi.intro (by decide +kernel) (Nat.le_of_ble_eq_true rfl) (fun X hC hR => ?_)
  refine z_iconst hC (pc := 0) (v := Int32.ofInt (-1)) dX13_above_0 (by decide) ?_
  refine z_istore_n hC (pc := 1) (lv' := [(3, iv (-1)), (0, .ref (κ k)), (1, iv x1), (2, iv x2)]) dX13_above_1 rfl (by decide) rfl ?_
  refine z_iconst hC (pc := 2) (v := Int32.ofInt 0) dX13_above_2 (by decide) ?_
  refine z_istore hC (pc := 3) (lv' := [(4, iv 0), (3, iv (-1)), (0, .ref (κ k)), (1, iv x1), (2, iv x2)]) dX13_above_3 (by decide) rfl ?_
  have j5 : ∀ (d5 : Nat), ∀ (y10 : Int) (y11 : Int), rng y10 → rng y11 → inv_X13_above_5 σ k x1 x2 o σ y10 y11 → (mu_X13_above_5 σ k x1 x2 o σ y10 y11) ≤ d5 → zS X G 5 (rW G κ σ) [(0, .ref (κ k)), (1, iv x1), (2, iv x2), (3, iv y10), (4, iv y11)] 0 0 5 [] := by
    intro d5
    induction d5 with
    | zero =>
      intro y10 y11 hy10 hy11 hI hmu
      exact absurd hmu (by have := h_5m   y10 y11  hy10 hy11  hI; omega)
    | succ d5 ih5 =>
      intro y10 y11 hy10 hy11 hI hmu5
      have h := h_5   y10 y11  hy10 hy11  hI
      refine z_iload hC (pc := 5) 4 dX13_above_5 rfl ?_
      refine z_aload_n hC (pc := 7) 0 dX13_above_7 rfl rfl ?_
      refine y_get hC (pc := 8) zf13 (rOb_k hk) 26 (v := .ref (κ (1000 * (k + 1) + 26))) dX13_above_8 zw2359 (rv_c rfl) (kk := ?_)
      refine z_iload_n hC (pc := 11) 1 dX13_above_11 rfl rfl ?_
      obtain ⟨b12, h⟩ := h
      refine y_iald hC (pc := 12) (rAr_k hk rfl rfl) dX13_above_12 b12 (v := (rA σ (1000 * (k + 1) + 26) x1)) rfl (kk := ?_)
      have h := h (hwf.a _ _)
      obtain ⟨hT, hF⟩ := h
      refine y_icmp_ge hC (pc := 13) 46 hy11 (hwf.a _ _) dX13_above_13 (by decide) (fun c => ?_) (fun c => ?_)
      · have h := hT c
        refine z_iload_n hC (pc := 46) 3 dX13_above_46 rfl rfl ?_
        exact y_reti hR dX13_above_47 rfl hy10 hwf (Nat.le_of_ble_eq_true rfl) (Nat.le_of_ble_eq_true rfl) ⟨rfl, h⟩
      · have h := hF c
        refine z_iload_n hC (pc := 16) 3 dX13_above_16 rfl rfl ?_
        obtain ⟨hT, hF⟩ := h
        refine y_if_ge hC (pc := 17) 46 hy10 dX13_above_17 (by decide) (fun c => ?_) (fun c => ?_)
        · have h := hT c
          refine z_iload_n hC (pc := 46) 3 dX13_above_46 rfl rfl ?_
          exact y_reti hR dX13_above_47 rfl hy10 hwf (Nat.le_of_ble_eq_true rfl) (Nat.le_of_ble_eq_true rfl) ⟨rfl, h⟩
        · have h := hF c
          refine z_aload_n hC (pc := 20) 0 dX13_above_20 rfl rfl ?_
          refine z_aload_n hC (pc := 21) 0 dX13_above_21 rfl rfl ?_
          refine y_get hC (pc := 22) zf13 (rOb_k hk) 25 (v := .ref (κ (1000 * (k + 1) + 25))) dX13_above_22 zw2357 (rv_c rfl) (kk := ?_)
          refine z_sipush hC (pc := 25) (v := Int32.ofInt 500) dX13_above_25 (by decide) ?_
          refine z_iload_n hC (pc := 28) 1 dX13_above_28 rfl rfl ?_
          refine y_imul hC (pc := 29) (v := (500 * x1)) dX13_above_29 rfl ?_
          refine z_iload hC (pc := 30) 4 dX13_above_30 rfl ?_
          refine y_iadd hC (pc := 32) (v := ((500 * x1) + y11)) dX13_above_32 rfl ?_
          obtain ⟨b13, h⟩ := h
          refine y_iald hC (pc := 33) (rAr_k hk rfl rfl) dX13_above_33 b13 (v := (rA σ (1000 * (k + 1) + 25) ((500 * x1) + y11))) rfl (kk := ?_)
          have h := h (hwf.a _ _)
          refine z_iload_n hC (pc := 34) 2 dX13_above_34 rfl rfl ?_
          refine z_iconst hC (pc := 35) (v := Int32.ofInt 0) dX13_above_35 (by decide) ?_
          obtain ⟨p14, h⟩ := h
          obtain ⟨p15, h⟩ := h
          refine y_callVi hC (pc := 36) (As := [iv (rA σ (1000 * (k + 1) + 25) ((500 * x1) + y11)), iv x2, iv 0]) (kkX13_has l G κ σ k (rA σ (1000 * (k + 1) + 25) ((500 * x1) + y11)) x2 0 o hwf hk (hwf.a _ _) hx2 (r_lit rfl) p14 p15) dmX13_has zf13 (rOb_k hk) dX13_above_36 zw3366 rfl rfl (Nat.le_of_ble_eq_true rfl) (Nat.le_of_ble_eq_true rfl) (Nat.le_of_ble_eq_true rfl) (Nat.le_of_ble_eq_true rfl) (Nat.le_of_ble_eq_true rfl) (kk := fun x17 s16 hx17 Ws16 qs16 => ?_)
          obtain ⟨es16, qs16⟩ := qs16
          have es16 := es16.symm
          subst es16
          have h := h x17 hx17 qs16
          refine z_istore_n hC (pc := 39) (lv' := [(3, iv x17), (0, .ref (κ k)), (1, iv x1), (2, iv x2), (4, iv y11)]) dX13_above_39 rfl (by decide) rfl ?_
          refine y_iinc hC (pc := 40) (v := (y11 + 1)) (lv' := [(4, iv (y11 + 1)), (3, iv x17), (0, .ref (κ k)), (1, iv x1), (2, iv x2)]) 4 dX13_above_40 rfl rfl (by decide) rfl ?_
          refine z_goto hC (pc := 43) 5 dX13_above_43 (by decide) ?_
          refine z_lvs [2, 3, 4, 1, 0] rfl ?_
          obtain ⟨r18, h⟩ := h
          obtain ⟨hI, hm⟩ := h
          exact ih5  x17 (y11 + 1)  hx17 r18  hI (by omega)
  refine z_lvs [2, 3, 4, 1, 0] rfl ?_
  exact j5 _  (-1) 0  (r_lit rfl) (r_lit rfl)  h (Nat.le_refl _)
theorem kX13_above (l : Launch) (G : zG) (κ : Nat → Nat) (σ : rS) (k : Nat) (x1 : Int) (x2 : Int) (o : Int → Nat) (hwf : rWF σ) (hk : rgk k) (hx1 : rng x1) (hx2 : rng x2) (hp : pre_X13_above σ k x1 x2 o) : rMi l G κ yX13_above cX13_above 5 .int 61 2225 [.ref (κ k), iv x1, iv x2] σ (fun x s => s = σ ∧ post_X13_above σ k x1 x2 o x) := wX13_above l G κ σ k x1 x2 o hwf hk hx1 hx2 (post_X13_above σ k x1 x2 o) (vX13_above σ k x1 x2 o hwf hk hx1 hx2 hp) (vX13_above_5 σ k x1 x2 o hwf hk hx1 hx2 hp) (vX13_above_5m σ k x1 x2 o hwf hk hx1 hx2 hp)
def pre_X13_template (σ : rS) (k : Nat) (x1 : Int) (o : Int → Nat) : Prop := rIM σ k o ∧ -1 ≤ x1 ∧ x1 < 320 ∧ 0 ≤ (rF σ k 28) ∧ (rF σ k 28) ≤ 7
def post_X13_template (σ : rS) (k : Nat) (x1 : Int) (o : Int → Nat) (r : Int) : Prop := r = -1 ∨ (0 ≤ r ∧ r < 320)
def inv_X13_template_4 (σ : rS) (k : Nat) (x1 : Int) (o : Int → Nat)  (s : rS) (it : Int) (kk : Int) : Prop := 0 ≤ kk ∧ kk ≤ 400 ∧ (it = -1 ∨ (0 ≤ it ∧ it < 320))
def mu_X13_template_4 (σ : rS) (k : Nat) (x1 : Int) (o : Int → Nat) (s : rS) (it : Int) (kk : Int) : Nat := (1 + (400 - kk).toNat)
def VC_X13_template (σ : rS) (k : Nat) (x1 : Int) (o : Int → Nat) (Q : Int → Prop) : Prop := (inv_X13_template_4 σ k x1 o σ x1 0)
def VC_X13_template_4 (σ : rS) (k : Nat) (x1 : Int) (o : Int → Nat) (Q : Int → Prop) : Prop := ∀ (y10 : Int) (y11 : Int), rng y10 → rng y11 → inv_X13_template_4 σ k x1 o σ y10 y11 → (((400 ≤ y11 → ((y10 < 0 → Q (-1)) ∧ (¬ y10 < 0 → (0 ≤ y10 ∧ y10 < 320) ∧ (rng (rA σ (1000 * (k + 1) + 15) y10) → ((¬ (rA σ (1000 * (k + 1) + 15) y10) = 0 → Q (-1)) ∧ ((rA σ (1000 * (k + 1) + 15) y10) = 0 → Q y10)))))) ∧ (¬ 400 ≤ y11 → ((y10 < 0 → ((y10 < 0 → Q (-1)) ∧ (¬ y10 < 0 → (0 ≤ y10 ∧ y10 < 320) ∧ (rng (rA σ (1000 * (k + 1) + 15) y10) → ((¬ (rA σ (1000 * (k + 1) + 15) y10) = 0 → Q (-1)) ∧ ((rA σ (1000 * (k + 1) + 15) y10) = 0 → Q y10)))))) ∧ (¬ y10 < 0 → (0 ≤ y10 ∧ y10 < 320) ∧ (rng (rA σ (1000 * (k + 1) + 15) y10) → ((¬ (rA σ (1000 * (k + 1) + 15) y10) = 2 → ((y10 < 0 → Q (-1)) ∧ (¬ y10 < 0 → (0 ≤ y10 ∧ y10 < 320) ∧ ((¬ (rA σ (1000 * (k + 1) + 15) y10) = 0 → Q (-1)) ∧ ((rA σ (1000 * (k + 1) + 15) y10) = 0 → Q y10))))) ∧ ((rA σ (1000 * (k + 1) + 15) y10) = 2 → (rng (rF σ k 28) → (0 ≤ y10 ∧ y10 < 320) ∧ (rng (rA σ (1000 * (k + 1) + 17) y10) → pre_X13_has σ k (rF σ k 28) (rA σ (1000 * (k + 1) + 17) y10) 0 o ∧ rk_X13_has σ k (rF σ k 28) (rA σ (1000 * (k + 1) + 17) y10) 0 o ≤ 40 ∧ (∀ (x20 : Int), rng x20 → post_X13_has σ k (rF σ k 28) (rA σ (1000 * (k + 1) + 17) y10) 0 o x20 → rng (y11 + 1) ∧ (inv_X13_template_4 σ k x1 o σ x20 (y11 + 1) ∧ (mu_X13_template_4 σ k x1 o σ x20 (y11 + 1)) < (mu_X13_template_4 σ k x1 o σ y10 y11)))))))))))))
def VC_X13_template_4m (σ : rS) (k : Nat) (x1 : Int) (o : Int → Nat) : Prop := ∀ (y10 : Int) (y11 : Int), rng y10 → rng y11 → inv_X13_template_4 σ k x1 o σ y10 y11 → 0 < (mu_X13_template_4 σ k x1 o σ y10 y11)
set_option maxHeartbeats 400000 in
theorem vX13_template (σ : rS) (k : Nat) (x1 : Int) (o : Int → Nat) (hwf : rWF σ) (hk : rgk k) (hx1 : rng x1) (hp : pre_X13_template σ k x1 o) : VC_X13_template σ k x1 o (post_X13_template σ k x1 o) := by
  simp only [VC_X13_template, pre_X13_template, post_X13_template, inv_X13_template_4, mu_X13_template_4, pre_X13_has, post_X13_has, rIM, rk_X13_has, rng, rfk, rNMp, rF_sF, rF_sA, rF_sL, rF_sR, rA_sA, rA_sF, rA_sL, rA_sR, rR_sF, rR_sA, rR_sL, rR_sR, reduceIte, and_true, true_and, and_false, false_and, and_self] at *
  (repeat' (first | with_reducible intro _ | with_reducible apply And.intro))
  all_goals (first | assumption | omega | grind (splits := 20) [rNM_sF0])
set_option maxHeartbeats 400000 in
theorem vX13_template_4 (σ : rS) (k : Nat) (x1 : Int) (o : Int → Nat) (hwf : rWF σ) (hk : rgk k) (hx1 : rng x1) (hp : pre_X13_template σ k x1 o) : VC_X13_template_4 σ k x1 o (post_X13_template σ k x1 o) := by
  simp only [VC_X13_template_4, pre_X13_template, post_X13_template, inv_X13_template_4, mu_X13_template_4, pre_X13_has, post_X13_has, rIM, rk_X13_has, rng, rfk, rNMp, rF_sF, rF_sA, rF_sL, rF_sR, rA_sA, rA_sF, rA_sL, rA_sR, rR_sF, rR_sA, rR_sL, rR_sR, reduceIte, and_true, true_and, and_false, false_and, and_self] at *
  (repeat' (first | with_reducible intro _ | with_reducible apply And.intro))
  all_goals (first | assumption | omega | grind (splits := 20) [rNM_sF0])
set_option maxHeartbeats 400000 in
theorem vX13_template_4m (σ : rS) (k : Nat) (x1 : Int) (o : Int → Nat) (hwf : rWF σ) (hk : rgk k) (hx1 : rng x1) (hp : pre_X13_template σ k x1 o) : VC_X13_template_4m σ k x1 o := by
  simp only [VC_X13_template_4m, pre_X13_template, post_X13_template, inv_X13_template_4, mu_X13_template_4, pre_X13_has, post_X13_has, rIM, rk_X13_has, rng, rfk, rNMp, rF_sF, rF_sA, rF_sL, rF_sR, rA_sA, rA_sF, rA_sL, rA_sR, rR_sF, rR_sA, rR_sL, rR_sR, reduceIte, and_true, true_and, and_false, false_and, and_self] at *
  (repeat' (first | with_reducible intro _ | with_reducible apply And.intro))
  all_goals (first | assumption | omega | grind (splits := 20) [rNM_sF0])
theorem wX13_template (l : Launch) (G : zG) (κ : Nat → Nat) (σ : rS) (k : Nat) (x1 : Int) (o : Int → Nat) (hwf : rWF σ) (hk : rgk k) (hx1 : rng x1) (Q : Int → Prop) (h : VC_X13_template σ k x1 o Q) (h_4 : VC_X13_template_4 σ k x1 o Q) (h_4m : VC_X13_template_4m σ k x1 o) : rMi l G κ yX13_template cX13_template 4 .int 61 2225 [.ref (κ k), iv x1] σ (fun x s => s = σ ∧ Q x) := by
  refine zMi.intro (by decide +kernel) (Nat.le_of_ble_eq_true rfl) (fun X hC hR => ?_)
  refine z_iload_n hC (pc := 0) 1 dX13_template_0 rfl rfl ?_
  refine z_istore_n hC (pc := 1) (lv' := [(2, iv x1), (0, .ref (κ k)), (1, iv x1)]) dX13_template_1 rfl (by decide) rfl ?_
  refine z_iconst hC (pc := 2) (v := Int32.ofInt 0) dX13_template_2 (by decide) ?_
  refine z_istore_n hC (pc := 3) (lv' := [(3, iv 0), (2, iv x1), (0, .ref (κ k)), (1, iv x1)]) dX13_template_3 rfl (by decide) rfl ?_
  have j4 : ∀ (d4 : Nat), ∀ (y10 : Int) (y11 : Int), rng y10 → rng y11 → inv_X13_template_4 σ k x1 o σ y10 y11 → (mu_X13_template_4 σ k x1 o σ y10 y11) ≤ d4 → zS X G 4 (rW G κ σ) [(0, .ref (κ k)), (2, iv y10), (3, iv y11)] 0 0 4 [] := by
    intro d4
    induction d4 with
    | zero =>
      intro y10 y11 hy10 hy11 hI hmu
      exact absurd hmu (by have := h_4m   y10 y11  hy10 hy11  hI; omega)
    | succ d4 ih4 =>
      intro y10 y11 hy10 hy11 hI hmu4
      have h := h_4   y10 y11  hy10 hy11  hI
      refine z_iload_n hC (pc := 4) 2 dX13_template_4 rfl rfl ?_
      refine z_sipush hC (pc := 5) (v := Int32.ofInt 400) dX13_template_5 (by decide) ?_
      obtain ⟨hT, hF⟩ := h
      refine y_icmp_ge hC (pc := 8) 47 hy11 (r_lit rfl) dX13_template_8 (by decide) (fun c => ?_) (fun c => ?_)
      · have h := hT c
        refine z_iload_n hC (pc := 47) 1 dX13_template_47 rfl rfl ?_
        obtain ⟨hT, hF⟩ := h
        refine y_if_lt hC (pc := 48) 64 hy10 dX13_template_48 (by decide) (fun c => ?_) (fun c => ?_)
        · have h := hT c
          refine z_iconst hC (pc := 64) (v := Int32.ofInt (-1)) dX13_template_64 (by decide) ?_
          exact y_reti hR dX13_template_65 rfl (r_lit rfl) hwf (Nat.le_of_ble_eq_true rfl) (Nat.le_of_ble_eq_true rfl) ⟨rfl, h⟩
        · have h := hF c
          refine z_aload_n hC (pc := 51) 0 dX13_template_51 rfl rfl ?_
          refine y_get hC (pc := 52) zf13 (rOb_k hk) 15 (v := .ref (κ (1000 * (k + 1) + 15))) dX13_template_52 zw2337 (rv_c rfl) (kk := ?_)
          refine z_iload_n hC (pc := 55) 1 dX13_template_55 rfl rfl ?_
          obtain ⟨b12, h⟩ := h
          refine y_iald hC (pc := 56) (rAr_k hk rfl rfl) dX13_template_56 b12 (v := (rA σ (1000 * (k + 1) + 15) y10)) rfl (kk := ?_)
          have h := h (hwf.a _ _)
          obtain ⟨hT, hF⟩ := h
          refine y_if_ne hC (pc := 57) 64 (hwf.a _ _) dX13_template_57 (by decide) (fun c => ?_) (fun c => ?_)
          · have h := hT c
            refine z_iconst hC (pc := 64) (v := Int32.ofInt (-1)) dX13_template_64 (by decide) ?_
            exact y_reti hR dX13_template_65 rfl (r_lit rfl) hwf (Nat.le_of_ble_eq_true rfl) (Nat.le_of_ble_eq_true rfl) ⟨rfl, h⟩
          · have h := hF c
            refine z_iload_n hC (pc := 60) 1 dX13_template_60 rfl rfl ?_
            refine z_goto hC (pc := 61) 65 dX13_template_61 (by decide) ?_
            exact y_reti hR dX13_template_65 rfl hy10 hwf (Nat.le_of_ble_eq_true rfl) (Nat.le_of_ble_eq_true rfl) ⟨rfl, h⟩
      · have h := hF c
        refine z_iload_n hC (pc := 11) 1 dX13_template_11 rfl rfl ?_
        obtain ⟨hT, hF⟩ := h
        refine y_if_lt hC (pc := 12) 47 hy10 dX13_template_12 (by decide) (fun c => ?_) (fun c => ?_)
        · have h := hT c
          refine z_iload_n hC (pc := 47) 1 dX13_template_47 rfl rfl ?_
          obtain ⟨hT, hF⟩ := h
          refine y_if_lt hC (pc := 48) 64 hy10 dX13_template_48 (by decide) (fun c => ?_) (fun c => ?_)
          · have h := hT c
            refine z_iconst hC (pc := 64) (v := Int32.ofInt (-1)) dX13_template_64 (by decide) ?_
            exact y_reti hR dX13_template_65 rfl (r_lit rfl) hwf (Nat.le_of_ble_eq_true rfl) (Nat.le_of_ble_eq_true rfl) ⟨rfl, h⟩
          · have h := hF c
            refine z_aload_n hC (pc := 51) 0 dX13_template_51 rfl rfl ?_
            refine y_get hC (pc := 52) zf13 (rOb_k hk) 15 (v := .ref (κ (1000 * (k + 1) + 15))) dX13_template_52 zw2337 (rv_c rfl) (kk := ?_)
            refine z_iload_n hC (pc := 55) 1 dX13_template_55 rfl rfl ?_
            obtain ⟨b13, h⟩ := h
            refine y_iald hC (pc := 56) (rAr_k hk rfl rfl) dX13_template_56 b13 (v := (rA σ (1000 * (k + 1) + 15) y10)) rfl (kk := ?_)
            have h := h (hwf.a _ _)
            obtain ⟨hT, hF⟩ := h
            refine y_if_ne hC (pc := 57) 64 (hwf.a _ _) dX13_template_57 (by decide) (fun c => ?_) (fun c => ?_)
            · have h := hT c
              refine z_iconst hC (pc := 64) (v := Int32.ofInt (-1)) dX13_template_64 (by decide) ?_
              exact y_reti hR dX13_template_65 rfl (r_lit rfl) hwf (Nat.le_of_ble_eq_true rfl) (Nat.le_of_ble_eq_true rfl) ⟨rfl, h⟩
            · have h := hF c
              refine z_iload_n hC (pc := 60) 1 dX13_template_60 rfl rfl ?_
              refine z_goto hC (pc := 61) 65 dX13_template_61 (by decide) ?_
              exact y_reti hR dX13_template_65 rfl hy10 hwf (Nat.le_of_ble_eq_true rfl) (Nat.le_of_ble_eq_true rfl) ⟨rfl, h⟩
        · have h := hF c
          refine z_aload_n hC (pc := 15) 0 dX13_template_15 rfl rfl ?_
          refine y_get hC (pc := 16) zf13 (rOb_k hk) 15 (v := .ref (κ (1000 * (k + 1) + 15))) dX13_template_16 zw2337 (rv_c rfl) (kk := ?_)
          refine z_iload_n hC (pc := 19) 1 dX13_template_19 rfl rfl ?_
          obtain ⟨b14, h⟩ := h
          refine y_iald hC (pc := 20) (rAr_k hk rfl rfl) dX13_template_20 b14 (v := (rA σ (1000 * (k + 1) + 15) y10)) rfl (kk := ?_)
          have h := h (hwf.a _ _)
          refine z_iconst hC (pc := 21) (v := Int32.ofInt 2) dX13_template_21 (by decide) ?_
          obtain ⟨hT, hF⟩ := h
          refine y_icmp_ne hC (pc := 22) 47 (hwf.a _ _) (r_lit rfl) dX13_template_22 (by decide) (fun c => ?_) (fun c => ?_)
          · have h := hT c
            refine z_iload_n hC (pc := 47) 1 dX13_template_47 rfl rfl ?_
            obtain ⟨hT, hF⟩ := h
            refine y_if_lt hC (pc := 48) 64 hy10 dX13_template_48 (by decide) (fun c => ?_) (fun c => ?_)
            · have h := hT c
              refine z_iconst hC (pc := 64) (v := Int32.ofInt (-1)) dX13_template_64 (by decide) ?_
              exact y_reti hR dX13_template_65 rfl (r_lit rfl) hwf (Nat.le_of_ble_eq_true rfl) (Nat.le_of_ble_eq_true rfl) ⟨rfl, h⟩
            · have h := hF c
              refine z_aload_n hC (pc := 51) 0 dX13_template_51 rfl rfl ?_
              refine y_get hC (pc := 52) zf13 (rOb_k hk) 15 (v := .ref (κ (1000 * (k + 1) + 15))) dX13_template_52 zw2337 (rv_c rfl) (kk := ?_)
              refine z_iload_n hC (pc := 55) 1 dX13_template_55 rfl rfl ?_
              obtain ⟨b15, h⟩ := h
              refine y_iald hC (pc := 56) (rAr_k hk rfl rfl) dX13_template_56 b15 (v := (rA σ (1000 * (k + 1) + 15) y10)) rfl (kk := ?_)
              obtain ⟨hT, hF⟩ := h
              refine y_if_ne hC (pc := 57) 64 (hwf.a _ _) dX13_template_57 (by decide) (fun c => ?_) (fun c => ?_)
              · have h := hT c
                refine z_iconst hC (pc := 64) (v := Int32.ofInt (-1)) dX13_template_64 (by decide) ?_
                exact y_reti hR dX13_template_65 rfl (r_lit rfl) hwf (Nat.le_of_ble_eq_true rfl) (Nat.le_of_ble_eq_true rfl) ⟨rfl, h⟩
              · have h := hF c
                refine z_iload_n hC (pc := 60) 1 dX13_template_60 rfl rfl ?_
                refine z_goto hC (pc := 61) 65 dX13_template_61 (by decide) ?_
                exact y_reti hR dX13_template_65 rfl hy10 hwf (Nat.le_of_ble_eq_true rfl) (Nat.le_of_ble_eq_true rfl) ⟨rfl, h⟩
          · have h := hF c
            refine z_aload_n hC (pc := 25) 0 dX13_template_25 rfl rfl ?_
            refine z_aload_n hC (pc := 26) 0 dX13_template_26 rfl rfl ?_
            refine y_get hC (pc := 27) zf13 (rOb_k hk) 28 (v := iv (rF σ k 28)) dX13_template_27 zw2363 (rv_i (Or.inl rfl) rfl) (kk := ?_)
            have h := h (hwf.f _ _)
            refine z_aload_n hC (pc := 30) 0 dX13_template_30 rfl rfl ?_
            refine y_get hC (pc := 31) zf13 (rOb_k hk) 17 (v := .ref (κ (1000 * (k + 1) + 17))) dX13_template_31 zw2341 (rv_c rfl) (kk := ?_)
            refine z_iload_n hC (pc := 34) 1 dX13_template_34 rfl rfl ?_
            obtain ⟨b16, h⟩ := h
            refine y_iald hC (pc := 35) (rAr_k hk rfl rfl) dX13_template_35 b16 (v := (rA σ (1000 * (k + 1) + 17) y10)) rfl (kk := ?_)
            have h := h (hwf.a _ _)
            refine z_iconst hC (pc := 36) (v := Int32.ofInt 0) dX13_template_36 (by decide) ?_
            obtain ⟨p17, h⟩ := h
            obtain ⟨p18, h⟩ := h
            refine y_callVi hC (pc := 37) (As := [iv (rF σ k 28), iv (rA σ (1000 * (k + 1) + 17) y10), iv 0]) (kkX13_has l G κ σ k (rF σ k 28) (rA σ (1000 * (k + 1) + 17) y10) 0 o hwf hk (hwf.f _ _) (hwf.a _ _) (r_lit rfl) p17 p18) dmX13_has zf13 (rOb_k hk) dX13_template_37 zw3366 rfl rfl (Nat.le_of_ble_eq_true rfl) (Nat.le_of_ble_eq_true rfl) (Nat.le_of_ble_eq_true rfl) (Nat.le_of_ble_eq_true rfl) (Nat.le_of_ble_eq_true rfl) (kk := fun x20 s19 hx20 Ws19 qs19 => ?_)
            obtain ⟨es19, qs19⟩ := qs19
            have es19 := es19.symm
            subst es19
            have h := h x20 hx20 qs19
            refine z_istore_n hC (pc := 40) (lv' := [(2, iv x20), (0, .ref (κ k)), (3, iv y11)]) dX13_template_40 rfl (by decide) rfl ?_
            refine y_iinc hC (pc := 41) (v := (y11 + 1)) (lv' := [(3, iv (y11 + 1)), (2, iv x20), (0, .ref (κ k))]) 2 dX13_template_41 rfl rfl (by decide) rfl ?_
            refine z_goto hC (pc := 44) 4 dX13_template_44 (by decide) ?_
            refine z_lvs [2, 1, 0] rfl ?_
            obtain ⟨r21, h⟩ := h
            obtain ⟨hI, hm⟩ := h
            exact ih4  x20 (y11 + 1)  hx20 r21  hI (by omega)
  refine z_lvs [2, 1, 0] rfl ?_
  exact j4 _  x1 0  hx1 (r_lit rfl)  h (Nat.le_refl _)
theorem kX13_template (l : Launch) (G : zG) (κ : Nat → Nat) (σ : rS) (k : Nat) (x1 : Int) (o : Int → Nat) (hwf : rWF σ) (hk : rgk k) (hx1 : rng x1) (hp : pre_X13_template σ k x1 o) : rMi l G κ yX13_template cX13_template 4 .int 61 2225 [.ref (κ k), iv x1] σ (fun x s => s = σ ∧ post_X13_template σ k x1 o x) := wX13_template l G κ σ k x1 o hwf hk hx1 (post_X13_template σ k x1 o) (vX13_template σ k x1 o hwf hk hx1 hp) (vX13_template_4 σ k x1 o hwf hk hx1 hp) (vX13_template_4m σ k x1 o hwf hk hx1 hp)
