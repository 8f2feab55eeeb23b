/-- what the files of a group import: numbers of files, going down by o -/
def rIM (σ : rS) (k : Nat) (o : Int → Nat) : Prop := ∀ f, 0 ≤ f → f ≤ 7 → o f ≤ 8 ∧ rA σ (1000 * (k + 1) + 24) f ≤ 40 ∧ rA σ (1000 * (k + 1) + 26) f ≤ 8 ∧ ∀ i, 0 ≤ i → i < rA σ (1000 * (k + 1) + 26) f → 0 ≤ rA σ (1000 * (k + 1) + 25) (500 * f + i) ∧ rA σ (1000 * (k + 1) + 25) (500 * f + i) ≤ 7 ∧ o (rA σ (1000 * (k + 1) + 25) (500 * f + i)) < o f
theorem zw2359 : Cond.fieldLink "TemplateHouseModel$Group" 78 "TemplateHouseModel$Group" "importMany" "[I" ∈ zT := zsub10 199 (by decide +kernel) (by decide +kernel)
theorem zw2357 : Cond.fieldLink "TemplateHouseModel$Group" 75 "TemplateHouseModel$Group" "imports" "[I" ∈ zT := zsub10 197 (by decide +kernel) (by decide +kernel)
theorem zw3366 : Cond.methodLink "TemplateHouseModel$Group" 139 ⟨"TemplateHouseModel$Group", "has", "(IIZ)I"⟩ ∈ zT := zsub15 6 (by decide +kernel) (by decide +kernel)
theorem zw3369 : Cond.code ⟨"TemplateHouseModel$Group", "has", "(IIZ)I"⟩ prog_16_method_8_code 6 (Option.some Jvm.ClassFile.FieldType.int) ∈ zT := zsub15 9 rfl rfl
theorem zw3367 : Cond.instanceMethod ⟨"TemplateHouseModel$Group", "has", "(IIZ)I"⟩ ∈ zT := zsub15 7 (by decide +kernel) (by decide +kernel)
theorem zw3368 : Cond.selects "TemplateHouseModel$Group" ⟨"TemplateHouseModel$Group", "has", "(IIZ)I"⟩ ⟨"TemplateHouseModel$Group", "has", "(IIZ)I"⟩ ∈ zT := zsub15 8 (by decide +kernel) (by decide +kernel)
abbrev cX13_has : ByteArray := prog_16_method_8_code
abbrev yX13_has : MethodName := ⟨"TemplateHouseModel$Group", "has", "(IIZ)I"⟩
theorem dmX13_has : zDv yX13_has cX13_has 6 (some .int) 3 := ⟨⟨⟨by decide +kernel, by decide +kernel, by decide +kernel⟩, zw3369, zw15⟩, zw3367, zw3368⟩
theorem dX13_has_0 : decode cX13_has 0 = .ok (.aload_n 0, 1) := by decide +kernel
theorem dX13_has_1 : decode cX13_has 1 = .ok (.iload_n 1, 1) := by decide +kernel
theorem dX13_has_2 : decode cX13_has 2 = .ok (.iload_n 2, 1) := by decide +kernel
theorem dX13_has_3 : decode cX13_has 3 = .ok (.iload_n 3, 1) := by decide +kernel
theorem dX13_has_4 : decode cX13_has 4 = .ok (.invokevirtual 135, 3) := by decide +kernel
theorem dX13_has_7 : decode cX13_has 7 = .ok (.istore 4, 2) := by decide +kernel
theorem dX13_has_9 : decode cX13_has 9 = .ok (.iconst 0, 1) := by decide +kernel
theorem dX13_has_10 : decode cX13_has 10 = .ok (.istore 5, 2) := by decide +kernel
theorem dX13_has_12 : decode cX13_has 12 = .ok (.iload 5, 2) := by decide +kernel
theorem dX13_has_14 : decode cX13_has 14 = .ok (.aload_n 0, 1) := by decide +kernel
theorem dX13_has_15 : decode cX13_has 15 = .ok (.getfield 78, 3) := by decide +kernel
theorem dX13_has_18 : decode cX13_has 18 = .ok (.iload_n 1, 1) := by decide +kernel
theorem dX13_has_19 : decode cX13_has 19 = .ok (.iaload, 1) := by decide +kernel
theorem dX13_has_20 : decode cX13_has 20 = .ok (.if_icmp .ge 35, 3) := by decide +kernel
theorem dX13_has_55 : decode cX13_has 55 = .ok (.iload 4, 2) := by decide +kernel
theorem dX13_has_57 : decode cX13_has 57 = .ok (.ireturn, 1) := by decide +kernel
theorem dX13_has_23 : decode cX13_has 23 = .ok (.iload 4, 2) := by decide +kernel
theorem dX13_has_25 : decode cX13_has 25 = .ok (.ifCond .ge 30, 3) := by decide +kernel
theorem dX13_has_28 : decode cX13_has 28 = .ok (.aload_n 0, 1) := by decide +kernel
theorem dX13_has_29 : decode cX13_has 29 = .ok (.aload_n 0, 1) := by decide +kernel
theorem dX13_has_30 : decode cX13_has 30 = .ok (.getfield 75, 3) := by decide +kernel
theorem dX13_has_33 : decode cX13_has 33 = .ok (.sipush 500, 3) := by decide +kernel
theorem dX13_has_36 : decode cX13_has 36 = .ok (.iload_n 1, 1) := by decide +kernel
theorem dX13_has_37 : decode cX13_has 37 = .ok (.imul, 1) := by decide +kernel
theorem dX13_has_38 : decode cX13_has 38 = .ok (.iload 5, 2) := by decide +kernel
theorem dX13_has_40 : decode cX13_has 40 = .ok (.iadd, 1) := by decide +kernel
theorem dX13_has_41 : decode cX13_has 41 = .ok (.iaload, 1) := by decide +kernel
theorem dX13_has_42 : decode cX13_has 42 = .ok (.iload_n 2, 1) := by decide +kernel
theorem dX13_has_43 : decode cX13_has 43 = .ok (.iload_n 3, 1) := by decide +kernel
theorem dX13_has_44 : decode cX13_has 44 = .ok (.invokevirtual 139, 3) := by decide +kernel
theorem dX13_has_47 : decode cX13_has 47 = .ok (.istore 4, 2) := by decide +kernel
theorem dX13_has_49 : decode cX13_has 49 = .ok (.iinc 5 1, 3) := by decide +kernel
theorem dX13_has_52 : decode cX13_has 52 = .ok (.goto (-40), 3) := by decide +kernel
def pre_X13_has (σ : rS) (k : Nat) (x1 : Int) (x2 : Int) (x3 : Int) (o : Int → Nat) : Prop := rIM σ k o ∧ 0 ≤ x1 ∧ x1 ≤ 7
def post_X13_has (σ : rS) (k : Nat) (x1 : Int) (x2 : Int) (x3 : Int) (o : Int → Nat) (r : Int) : Prop := r = -1 ∨ (0 ≤ r ∧ r < 320)
def rk_X13_has (σ : rS) (k : Nat) (x1 : Int) (x2 : Int) (x3 : Int) (o : Int → Nat) : Nat := 2 * o x1 + 2
def inv_X13_has_12 (σ : rS) (k : Nat) (x1 : Int) (x2 : Int) (x3 : Int) (o : Int → Nat)  (s : rS) (it : Int) (kk : Int) : Prop := 0 ≤ kk ∧ kk ≤ 8 ∧ (it = -1 ∨ (0 ≤ it ∧ it < 320))
def mu_X13_has_12 (σ : rS) (k : Nat) (x1 : Int) (x2 : Int) (x3 : Int) (o : Int → Nat) (s : rS) (it : Int) (kk : Int) : Nat := (1 + (8 - kk).toNat)
def VC_X13_has (n : Nat) (σ : rS) (k : Nat) (x1 : Int) (x2 : Int) (x3 : Int) (o : Int → Nat) (Q : Int → Prop) : Prop := pre_X13_own σ k x1 x2 x3 ∧ (∀ (x12 : Int), rng x12 → post_X13_own σ k x1 x2 x3 x12 → (inv_X13_has_12 σ k x1 x2 x3 o σ x12 0))
def VC_X13_has_12 (n : Nat) (σ : rS) (k : Nat) (x1 : Int) (x2 : Int) (x3 : Int) (o : Int → Nat) (Q : Int → Prop) : Prop := ∀ (y13 : Int) (y14 : Int), rng y13 → rng y14 → inv_X13_has_12 σ k x1 x2 x3 o σ y13 y14 → ((0 ≤ x1 ∧ x1 < 8) ∧ (rng (rA σ (1000 * (k + 1) + 26) x1) → (((rA σ (1000 * (k + 1) + 26) x1) ≤ y14 → Q y13) ∧ (¬ (rA σ (1000 * (k + 1) + 26) x1) ≤ y14 → ((0 ≤ y13 → Q y13) ∧ (¬ 0 ≤ y13 → (0 ≤ ((500 * x1) + y14) ∧ ((500 * x1) + y14) < 4000) ∧ (rng (rA σ (1000 * (k + 1) + 25) ((500 * x1) + y14)) → pre_X13_has σ k (rA σ (1000 * (k + 1) + 25) ((500 * x1) + y14)) x2 x3 o ∧ rk_X13_has σ k (rA σ (1000 * (k + 1) + 25) ((500 * x1) + y14)) x2 x3 o ≤ n ∧ (∀ (x20 : Int), rng x20 → post_X13_has σ k (rA σ (1000 * (k + 1) + 25) ((500 * x1) + y14)) x2 x3 o x20 → rng (y14 + 1) ∧ (inv_X13_has_12 σ k x1 x2 x3 o σ x20 (y14 + 1) ∧ (mu_X13_has_12 σ k x1 x2 x3 o σ x20 (y14 + 1)) < (mu_X13_has_12 σ k x1 x2 x3 o σ y13 y14))))))))))
def VC_X13_has_12m (n : Nat) (σ : rS) (k : Nat) (x1 : Int) (x2 : Int) (x3 : Int) (o : Int → Nat) : Prop := ∀ (y13 : Int) (y14 : Int), rng y13 → rng y14 → inv_X13_has_12 σ k x1 x2 x3 o σ y13 y14 → 0 < (mu_X13_has_12 σ k x1 x2 x3 o σ y13 y14)
set_option maxHeartbeats 400000 in
theorem vX13_has (n : Nat) (σ : rS) (k : Nat) (x1 : Int) (x2 : Int) (x3 : Int) (o : Int → Nat) (hwf : rWF σ) (hk : rgk k) (hx1 : rng x1) (hx2 : rng x2) (hx3 : rng x3) (hp : pre_X13_has σ k x1 x2 x3 o) (hr : rk_X13_has σ k x1 x2 x3 o ≤ n + 1) : VC_X13_has n σ k x1 x2 x3 o (post_X13_has σ k x1 x2 x3 o) := by
  simp only [VC_X13_has, pre_X13_has, post_X13_has, inv_X13_has_12, mu_X13_has_12, pre_X13_own, post_X13_own, rIM, rk_X13_has, rng, rfk, rNMp, rF_sF, rF_sA, rF_sL, rF_sR, rA_sA, rA_sF, rA_sL, rA_sR, rR_sF, rR_sA, rR_sL, rR_sR, reduceIte, and_true, true_and, and_false, false_and, and_self] at *
  (repeat' (first | with_reducible intro _ | with_reducible apply And.intro))
  all_goals (first | assumption | omega | grind (splits := 20) [rNM_sF0])
set_option maxHeartbeats 400000 in
theorem vX13_has_12 (n : Nat) (σ : rS) (k : Nat) (x1 : Int) (x2 : Int) (x3 : Int) (o : Int → Nat) (hwf : rWF σ) (hk : rgk k) (hx1 : rng x1) (hx2 : rng x2) (hx3 : rng x3) (hp : pre_X13_has σ k x1 x2 x3 o) (hr : rk_X13_has σ k x1 x2 x3 o ≤ n + 1) : VC_X13_has_12 n σ k x1 x2 x3 o (post_X13_has σ k x1 x2 x3 o) := by
  simp only [VC_X13_has_12, pre_X13_has, post_X13_has, inv_X13_has_12, mu_X13_has_12, pre_X13_own, post_X13_own, rIM, rk_X13_has, rng, rfk, rNMp, rF_sF, rF_sA, rF_sL, rF_sR, rA_sA, rA_sF, rA_sL, rA_sR, rR_sF, rR_sA, rR_sL, rR_sR, reduceIte, and_true, true_and, and_false, false_and, and_self] at *
  (repeat' (first | with_reducible intro _ | with_reducible apply And.intro))
  all_goals (first | assumption | omega | grind (splits := 20) [rNM_sF0])
set_option maxHeartbeats 400000 in
theorem vX13_has_12m (n : Nat) (σ : rS) (k : Nat) (x1 : Int) (x2 : Int) (x3 : Int) (o : Int → Nat) (hwf : rWF σ) (hk : rgk k) (hx1 : rng x1) (hx2 : rng x2) (hx3 : rng x3) (hp : pre_X13_has σ k x1 x2 x3 o) (hr : rk_X13_has σ k x1 x2 x3 o ≤ n + 1) : VC_X13_has_12m n σ k x1 x2 x3 o := by
  simp only [VC_X13_has_12m, pre_X13_has, post_X13_has, inv_X13_has_12, mu_X13_has_12, pre_X13_own, post_X13_own, rIM, rk_X13_has, rng, rfk, rNMp, rF_sF, rF_sA, rF_sL, rF_sR, rA_sA, rA_sF, rA_sL, rA_sR, rR_sF, rR_sA, rR_sL, rR_sR, reduceIte, and_true, true_and, and_false, false_and, and_self] at *
  (repeat' (first | with_reducible intro _ | with_reducible apply And.intro))
  all_goals (first | assumption | omega | grind (splits := 20) [rNM_sF0])
def Q_imp (l : Launch) (G : zG) (κ : Nat → Nat) (n : Nat) : Prop := (∀ (σ : rS) (k : Nat) (x1 : Int) (x2 : Int) (x3 : Int) (o : Int → Nat), rWF σ → rgk k → rng x1 → rng x2 → rng x3 → pre_X13_has σ k x1 x2 x3 o → rk_X13_has σ k x1 x2 x3 o ≤ n → rMi l G κ yX13_has cX13_has 6 .int (n + 20) (n * 40 + 600) [.ref (κ k), iv x1, iv x2, iv x3] σ (fun x s => s = σ ∧ post_X13_has σ k x1 x2 x3 o x))
theorem qX13_has {l : Launch} {G : zG} {κ : Nat → Nat} {n : Nat} (h : Q_imp l G κ n) : (∀ (σ : rS) (k : Nat) (x1 : Int) (x2 : Int) (x3 : Int) (o : Int → Nat), rWF σ → rgk k → rng x1 → rng x2 → rng x3 → pre_X13_has σ k x1 x2 x3 o → rk_X13_has σ k x1 x2 x3 o ≤ n → rMi l G κ yX13_has cX13_has 6 .int (n + 20) (n * 40 + 600) [.ref (κ k), iv x1, iv x2, iv x3] σ (fun x s => s = σ ∧ post_X13_has σ k x1 x2 x3 o x)) := h
theorem wX13_has (l : Launch) (G : zG) (κ : Nat → Nat) (n : Nat) (ih : Q_imp l G κ n) (σ : rS) (k : Nat) (x1 : Int) (x2 : Int) (x3 : Int) (o : Int → Nat) (hwf : rWF σ) (hk : rgk k) (hx1 : rng x1) (hx2 : rng x2) (hx3 : rng x3) (Q : Int → Prop) (h : VC_X13_has n σ k x1 x2 x3 o Q) (h_12 : VC_X13_has_12 n σ k x1 x2 x3 o Q) (h_12m : VC_X13_has_12m n σ k x1 x2 x3 o) : rMi l G κ yX13_has cX13_has 6 .int (n + 1 + 20) ((n + 1) * 40 + 600) [.ref (κ k), iv x1, iv x2, iv x3] σ (fun x s => s = σ ∧ Q x) := by
  refine zMi.intro (by decide +kernel) (Nat.le_of_ble_eq_true rfl) (fun X hC hR => ?_)
  refine z_aload_n hC (pc := 0) 0 dX13_has_0 rfl rfl ?_
  refine z_iload_n hC (pc := 1) 1 dX13_has_1 rfl rfl ?_
  refine z_iload_n hC (pc := 2) 2 dX13_has_2 rfl rfl ?_
  refine z_iload_n hC (pc := 3) 3 dX13_has_3 rfl rfl ?_
  obtain ⟨p10, h⟩ := h
  refine y_callVi hC (pc := 4) (As := [iv x1, iv x2, iv x3]) (kX13_own l G κ σ k x1 x2 x3 hwf hk hx1 hx2 hx3 p10) dmX13_own zf13 (rOb_k hk) dX13_has_4 zw3315 rfl rfl (Nat.le_of_ble_eq_true rfl) (Nat.le_of_ble_eq_true rfl) (by omega) (by omega) (Nat.le_of_ble_eq_true rfl) (kk := fun x12 s11 hx12 Ws11 qs11 => ?_)
  obtain ⟨es11, qs11⟩ := qs11
  have es11 := es11.symm
  subst es11
  have h := h x12 hx12 qs11
  refine z_istore hC (pc := 7) (lv' := [(4, iv x12), (0, .ref (κ k)), (1, iv x1), (2, iv x2), (3, iv x3)]) dX13_has_7 (by decide) rfl ?_
  refine z_iconst hC (pc := 9) (v := Int32.ofInt 0) dX13_has_9 (by decide) ?_
  refine z_istore hC (pc := 10) (lv' := [(5, iv 0), (4, iv x12), (0, .ref (κ k)), (1, iv x1), (2, iv x2), (3, iv x3)]) dX13_has_10 (by decide) rfl ?_
  have j12 : ∀ (d12 : Nat), ∀ (y13 : Int) (y14 : Int), rng y13 → rng y14 → inv_X13_has_12 σ k x1 x2 x3 o σ y13 y14 → (mu_X13_has_12 σ k x1 x2 x3 o σ y13 y14) ≤ d12 → zS X G 6 (rW G κ σ) [(0, .ref (κ k)), (1, iv x1), (2, iv x2), (3, iv x3), (4, iv y13), (5, iv y14)] 0 0 12 [] := by
    intro d12
    induction d12 with
    | zero =>
      intro y13 y14 hy13 hy14 hI hmu
      exact absurd hmu (by have := h_12m   y13 y14  hy13 hy14  hI; omega)
    | succ d12 ih12 =>
      intro y13 y14 hy13 hy14 hI hmu12
      have h := h_12   y13 y14  hy13 hy14  hI
      refine z_iload hC (pc := 12) 5 dX13_has_12 rfl ?_
      refine z_aload_n hC (pc := 14) 0 dX13_has_14 rfl rfl ?_
      refine y_get hC (pc := 15) zf13 (rOb_k hk) 26 (v := .ref (κ (1000 * (k + 1) + 26))) dX13_has_15 zw2359 (rv_c rfl) (kk := ?_)
      refine z_iload_n hC (pc := 18) 1 dX13_has_18 rfl rfl ?_
      obtain ⟨b15, h⟩ := h
      refine y_iald hC (pc := 19) (rAr_k hk rfl rfl) dX13_has_19 b15 (v := (rA σ (1000 * (k + 1) + 26) x1)) rfl (kk := ?_)
      have h := h (hwf.a _ _)
      obtain ⟨hT, hF⟩ := h
      refine y_icmp_ge hC (pc := 20) 55 hy14 (hwf.a _ _) dX13_has_20 (by decide) (fun c => ?_) (fun c => ?_)
      · have h := hT c
        refine z_iload hC (pc := 55) 4 dX13_has_55 rfl ?_
        exact y_reti hR dX13_has_57 rfl hy13 hwf (Nat.le_of_ble_eq_true rfl) (Nat.le_of_ble_eq_true rfl) ⟨rfl, h⟩
      · have h := hF c
        refine z_iload hC (pc := 23) 4 dX13_has_23 rfl ?_
        obtain ⟨hT, hF⟩ := h
        refine y_if_ge hC (pc := 25) 55 hy13 dX13_has_25 (by decide) (fun c => ?_) (fun c => ?_)
        · have h := hT c
          refine z_iload hC (pc := 55) 4 dX13_has_55 rfl ?_
          exact y_reti hR dX13_has_57 rfl hy13 hwf (Nat.le_of_ble_eq_true rfl) (Nat.le_of_ble_eq_true rfl) ⟨rfl, h⟩
        · have h := hF c
          refine z_aload_n hC (pc := 28) 0 dX13_has_28 rfl rfl ?_
          refine z_aload_n hC (pc := 29) 0 dX13_has_29 rfl rfl ?_
          refine y_get hC (pc := 30) zf13 (rOb_k hk) 25 (v := .ref (κ (1000 * (k + 1) + 25))) dX13_has_30 zw2357 (rv_c rfl) (kk := ?_)
          refine z_sipush hC (pc := 33) (v := Int32.ofInt 500) dX13_has_33 (by decide) ?_
          refine z_iload_n hC (pc := 36) 1 dX13_has_36 rfl rfl ?_
          refine y_imul hC (pc := 37) (v := (500 * x1)) dX13_has_37 rfl ?_
          refine z_iload hC (pc := 38) 5 dX13_has_38 rfl ?_
          refine y_iadd hC (pc := 40) (v := ((500 * x1) + y14)) dX13_has_40 rfl ?_
          obtain ⟨b16, h⟩ := h
          refine y_iald hC (pc := 41) (rAr_k hk rfl rfl) dX13_has_41 b16 (v := (rA σ (1000 * (k + 1) + 25) ((500 * x1) + y14))) rfl (kk := ?_)
          have h := h (hwf.a _ _)
          refine z_iload_n hC (pc := 42) 2 dX13_has_42 rfl rfl ?_
          refine z_iload_n hC (pc := 43) 3 dX13_has_43 rfl rfl ?_
          obtain ⟨p17, h⟩ := h
          obtain ⟨p18, h⟩ := h
          refine y_callVi hC (pc := 44) (As := [iv (rA σ (1000 * (k + 1) + 25) ((500 * x1) + y14)), iv x2, iv x3]) (qX13_has ih σ k (rA σ (1000 * (k + 1) + 25) ((500 * x1) + y14)) x2 x3 o hwf hk (hwf.a _ _) hx2 hx3 p17 p18) dmX13_has zf13 (rOb_k hk) dX13_has_44 zw3366 rfl rfl (Nat.le_of_ble_eq_true rfl) (Nat.le_of_ble_eq_true rfl) (by omega) (by omega) (Nat.le_of_ble_eq_true rfl) (kk := fun x20 s19 hx20 Ws19 qs19 => ?_)
          obtain ⟨es19, qs19⟩ := qs19
          have es19 := es19.symm
          subst es19
          have h := h x20 hx20 qs19
          refine z_istore hC (pc := 47) (lv' := [(4, iv x20), (0, .ref (κ k)), (1, iv x1), (2, iv x2), (3, iv x3), (5, iv y14)]) dX13_has_47 (by decide) rfl ?_
          refine y_iinc hC (pc := 49) (v := (y14 + 1)) (lv' := [(5, iv (y14 + 1)), (4, iv x20), (0, .ref (κ k)), (1, iv x1), (2, iv x2), (3, iv x3)]) 5 dX13_has_49 rfl rfl (by decide) rfl ?_
          refine z_goto hC (pc := 52) 12 dX13_has_52 (by decide) ?_
          refine z_lvs [2, 3, 4, 5, 1, 0] rfl ?_
          obtain ⟨r21, h⟩ := h
          obtain ⟨hI, hm⟩ := h
          exact ih12  x20 (y14 + 1)  hx20 r21  hI (by omega)
  refine z_lvs [2, 3, 4, 5, 1, 0] rfl ?_
  exact j12 _  x12 0  hx12 (r_lit rfl)  h (Nat.le_refl _)
theorem kX13_has (l : Launch) (G : zG) (κ : Nat → Nat) (n : Nat) (ih : Q_imp l G κ n) (σ : rS) (k : Nat) (x1 : Int) (x2 : Int) (x3 : Int) (o : Int → Nat) (hwf : rWF σ) (hk : rgk k) (hx1 : rng x1) (hx2 : rng x2) (hx3 : rng x3) (hp : pre_X13_has σ k x1 x2 x3 o) (hr : rk_X13_has σ k x1 x2 x3 o ≤ n + 1) : rMi l G κ yX13_has cX13_has 6 .int (n + 1 + 20) ((n + 1) * 40 + 600) [.ref (κ k), iv x1, iv x2, iv x3] σ (fun x s => s = σ ∧ post_X13_has σ k x1 x2 x3 o x) := wX13_has l G κ n ih σ k x1 x2 x3 o hwf hk hx1 hx2 hx3 (post_X13_has σ k x1 x2 x3 o) (vX13_has n σ k x1 x2 x3 o hwf hk hx1 hx2 hx3 hp hr) (vX13_has_12 n σ k x1 x2 x3 o hwf hk hx1 hx2 hx3 hp hr) (vX13_has_12m n σ k x1 x2 x3 o hwf hk hx1 hx2 hx3 hp hr)
theorem all_imp (l : Launch) (G : zG) (κ : Nat → Nat) : ∀ n, Q_imp l G κ n := by
  intro n
  induction n with
  | zero => exact fun _ _ _ _ _ _ _ _ _ _ _ _ hr => absurd hr (by unfold rk_X13_has; omega)
  | succ n ih => exact kX13_has l G κ n ih
theorem kkX13_has (l : Launch) (G : zG) (κ : Nat → Nat) (σ : rS) (k : Nat) (x1 : Int) (x2 : Int) (x3 : Int) (o : Int → Nat) (hwf : rWF σ) (hk : rgk k) (hx1 : rng x1) (hx2 : rng x2) (hx3 : rng x3) (hp : pre_X13_has σ k x1 x2 x3 o) (hr : rk_X13_has σ k x1 x2 x3 o ≤ 40) : rMi l G κ yX13_has cX13_has 6 .int 60 2200 [.ref (κ k), iv x1, iv x2, iv x3] σ (fun x s => s = σ ∧ post_X13_has σ k x1 x2 x3 o x) := qX13_has (all_imp l G κ 40) σ k x1 x2 x3 o hwf hk hx1 hx2 hx3 hp hr
