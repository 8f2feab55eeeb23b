theorem wX14_readBoth (l : Launch) (G : zG) (κ : Nat → Nat) (n : Nat) (ih : Q_rd l G κ n) (σ : rS) (gg : Nat) (g : Nat → Int → Int) (hwf : rWF σ) (Q : Int → rS → Prop) (h : VC_X14_readBoth n σ gg g Q) (h_39 : VC_X14_readBoth_39 n σ gg g Q) (h_39m : VC_X14_readBoth_39m n σ gg g) : rMi l G κ yX14_readBoth cX14_readBoth 5 .int (n + 1 + 100) ((n + 1) * 40 + 3600) [.ref (κ 0)] σ (fun x s => rKeep 0x6c0a3001c00 0x4100001280 0x13c00000000 0x3ee0000d7f 0 σ s ∧ Q x s) := by
  refine zMi.intro (by decide +kernel) (Nat.le_of_ble_eq_true rfl) (fun X hC hR => ?_)
  obtain ⟨g0, h⟩ := h
  refine z_aload_n hC (pc := 0) 0 dX14_readBoth_0 rfl rfl ?_
  obtain ⟨g10, h⟩ := h
  obtain ⟨p11, h⟩ := h
  obtain ⟨p12, h⟩ := h
  refine y_callVi hC (pc := 1) (As := []) (qX14_readNot ih σ gg g10 hwf  p11 p12) dmX14_readNot zf14 rOb_0 dX14_readBoth_1 zw3198 rfl rfl (Nat.le_of_ble_eq_true rfl) (Nat.le_of_ble_eq_true rfl) (by omega) (by omega) (Nat.le_of_ble_eq_true rfl) (kk := fun v1 s1 hv1 Ws1 qs1 => ?_)
  have h := h v1 s1 hv1 Ws1 (CCp.keep qs1.1 rfl rfl rfl rfl rfl rfl rfl) (qs1.1.R rfl) (qs1.1.F rfl) (qs1.1.F rfl) (qs1.1.F rfl) (qs1.1.F rfl) (qs1.1.F rfl) (qs1.1.F rfl) (fun i => qs1.1.A (f := 26) (by decide) rfl) qs1.2
  refine z_istore_n hC (pc := 4) (lv' := [(1, iv v1), (0, .ref (κ 0))]) dX14_readBoth_4 rfl (by decide) rfl ?_
  refine z_aload_n hC (pc := 5) 1 dX14_readBoth_5 rfl rfl ?_
  obtain ⟨p13, h⟩ := h
  refine y_callVv hC (pc := 6) (As := []) (kX14_blanks l G κ s1  Ws1  p13) dmX14_blanks zf14 rOb_0 dX14_readBoth_6 zw3119 rfl rfl (Nat.le_of_ble_eq_true rfl) (Nat.le_of_ble_eq_true rfl) (by omega) (by omega) (Nat.le_of_ble_eq_true rfl) (kk := fun s6 Ws6 qs6 => ?_)
  have h := h s6 Ws6 (rNMp.keep qs6.1 rfl rfl rfl rfl rfl) (WNp.keep qs6.1 rfl rfl rfl rfl rfl) (PNp.keep qs6.1 rfl rfl rfl rfl rfl) (CCp.keep qs6.1 rfl rfl rfl rfl rfl rfl rfl) (qs6.1.R rfl) (qs6.1.F rfl) (qs6.1.F rfl) (qs6.1.F rfl) (qs6.1.F rfl) (qs6.1.F rfl) (qs6.1.F rfl) (qs6.1.F rfl) (qs6.1.F rfl) (qs6.1.F rfl) (fun i => qs6.1.A (f := 26) (by decide) rfl) (qs6.1.FG g0 rfl) (qs6.1.FG g0 rfl) (qs6.1.FG g0 rfl) (qs6.1.FG g0 rfl) (qs6.1.FG g0 rfl) (fz_keep qs6.1 rfl) (RG.keep (c0 := 0) qs6.1 rfl rfl rfl rfl rfl rfl rfl rfl rfl rfl rfl rfl rfl rfl rfl rfl rfl rfl) qs6.2
  refine z_aload_n hC (pc := 9) 1 dX14_readBoth_9 rfl rfl ?_
  refine y_get hC (pc := 10) zf14 rOb_0 10 (v := iv (rF s6 0 10)) dX14_readBoth_10 zw2478 (rv_i (Or.inl rfl) rfl) (kk := ?_)
  have h := h (Ws6.f _ _)
  obtain ⟨hT, hF⟩ := h
  refine y_if_ne hC (pc := 13) 25 (Ws6.f _ _) dX14_readBoth_13 (by decide) (fun c => ?_) (fun c => ?_)
  · have h := hT c
    refine z_iload_n hC (pc := 25) 0 dX14_readBoth_25 rfl rfl ?_
    exact y_reti hR dX14_readBoth_26 rfl hv1 Ws6 (Nat.le_of_ble_eq_true rfl) (Nat.le_of_ble_eq_true rfl) ⟨(rKeep.tr (rKeep.tr rKeep.rf qs1.1 rfl rfl rfl rfl rfl) qs6.1 rfl rfl rfl rfl rfl), h⟩
  · have h := hF c
    refine z_aload_n hC (pc := 16) 1 dX14_readBoth_16 rfl rfl ?_
    refine z_bipush hC (pc := 17) (v := Int32.ofInt 38) dX14_readBoth_17 (by decide) ?_
    obtain ⟨p14, h⟩ := h
    refine y_callVi hC (pc := 19) (As := [iv 38]) (kX14_isTwice_t l G κ s6 38 Ws6 (r_lit rfl) p14) dmX14_isTwice zf14 rOb_0 dX14_readBoth_19 zw3270 rfl rfl (Nat.le_of_ble_eq_true rfl) (Nat.le_of_ble_eq_true rfl) (by omega) (by omega) (Nat.le_of_ble_eq_true rfl) (kk := fun v19 s19 hv19 Ws19 qs19 => ?_)
    obtain ⟨es19, qs19⟩ := qs19
    have es19 := es19.symm
    subst es19
    have h := h v19 hv19 qs19
    obtain ⟨hT, hF⟩ := h
    refine y_if_ne hC (pc := 22) 27 hv19 dX14_readBoth_22 (by decide) (fun c => ?_) (fun c => ?_)
    · have h := hT c
      refine z_aload_n hC (pc := 27) 1 dX14_readBoth_27 rfl rfl ?_
      refine z_bipush hC (pc := 28) (v := Int32.ofInt 56) dX14_readBoth_28 (by decide) ?_
      refine z_iload_n hC (pc := 30) 0 dX14_readBoth_30 rfl rfl ?_
      refine z_iconst hC (pc := 31) (v := Int32.ofInt 0) dX14_readBoth_31 (by decide) ?_
      refine z_iconst hC (pc := 32) (v := Int32.ofInt 0) dX14_readBoth_32 (by decide) ?_
      obtain ⟨p15, h⟩ := h
      refine y_callVi hC (pc := 33) (As := [iv 56, iv v1, iv 0, iv 0]) (kX14_node_t l G κ s6 56 v1 0 0 gg Ws6 (r_lit rfl) hv1 (r_lit rfl) (r_lit rfl) p15) dmX14_node zf14 rOb_0 dX14_readBoth_33 zw3170 rfl rfl (Nat.le_of_ble_eq_true rfl) (Nat.le_of_ble_eq_true rfl) (by omega) (by omega) (Nat.le_of_ble_eq_true rfl) (kk := fun v33 s33 hv33 Ws33 qs33 => ?_)
      have h := h v33 s33 hv33 Ws33 (rNMp.keep qs33.1 rfl rfl rfl rfl rfl) (WNp.keep qs33.1 rfl rfl rfl rfl rfl) (CCp.keep qs33.1 rfl rfl rfl rfl rfl rfl rfl) (qs33.1.R rfl) (qs33.1.F rfl) (qs33.1.F rfl) (qs33.1.F rfl) (qs33.1.F rfl) (qs33.1.F rfl) (qs33.1.F rfl) (qs33.1.F rfl) (qs33.1.F rfl) (qs33.1.F rfl) (qs33.1.F rfl) (fun i => qs33.1.A (f := 26) (by decide) rfl) (qs33.1.FG g0 rfl) (qs33.1.FG g0 rfl) (qs33.1.FG g0 rfl) (qs33.1.FG g0 rfl) (fz_keep qs33.1 rfl) qs33.2
      refine z_istore_n hC (pc := 36) (lv' := [(2, iv v33), (1, iv v1), (0, .ref (κ 0))]) dX14_readBoth_36 rfl (by decide) rfl ?_
      refine z_iload_n hC (pc := 37) 1 dX14_readBoth_37 rfl rfl ?_
      refine z_istore_n hC (pc := 38) (lv' := [(3, iv v1), (2, iv v33), (1, iv v1), (0, .ref (κ 0))]) dX14_readBoth_38 rfl (by decide) rfl ?_
      have j39 : ∀ (d39 : Nat), ∀ (s39 : rS) (y39_2 : Int) (y39_3 : Int), rWF s39 → rng y39_2 → rng y39_3 → rKeep 0x6c0a3001c00 0x4100001280 0x13c00000000 0x3ee0000d7f 0 σ s39 → inv_X14_readBoth_39 σ gg g s39 y39_2 y39_3 → (mu_X14_readBoth_39 σ gg g s39 y39_2 y39_3) ≤ d39 → zS X G 5 (rW G κ s39) [(0, .ref (κ 0)), (2, iv y39_2), (3, iv y39_3)] 0 0 39 [] := by
        intro d39
        induction d39 with
        | zero =>
          intro s39 y39_2 y39_3 Ws39 hy39_2 hy39_3 kJ hI hmu
          exact absurd hmu (by have := h_39m  s39 y39_2 y39_3 Ws39 hy39_2 hy39_3 (CCp.keep kJ rfl rfl rfl rfl rfl rfl rfl) (kJ.R rfl) (kJ.F rfl) (kJ.F rfl) (kJ.F rfl) (kJ.F rfl) (kJ.F rfl) (kJ.F rfl) (fun i => kJ.A (f := 26) (by decide) rfl) hI; omega)
        | succ d39 ih39 =>
          intro s39 y39_2 y39_3 Ws39 hy39_2 hy39_3 kJ hI hmu39
          have h := h_39  s39 y39_2 y39_3 Ws39 hy39_2 hy39_3 (CCp.keep kJ rfl rfl rfl rfl rfl rfl rfl) (kJ.R rfl) (kJ.F rfl) (kJ.F rfl) (kJ.F rfl) (kJ.F rfl) (kJ.F rfl) (kJ.F rfl) (fun i => kJ.A (f := 26) (by decide) rfl) hI
          refine z_aload_n hC (pc := 39) 0 dX14_readBoth_39 rfl rfl ?_
          refine y_get hC (pc := 40) zf14 rOb_0 10 (v := iv (rF s39 0 10)) dX14_readBoth_40 zw2478 (rv_i (Or.inl rfl) rfl) (kk := ?_)
          have h := h (Ws39.f _ _)
          obtain ⟨hT, hF⟩ := h
          refine y_if_ne hC (pc := 43) 101 (Ws39.f _ _) dX14_readBoth_43 (by decide) (fun c => ?_) (fun c => ?_)
          · have h := hT c
            refine z_iload_n hC (pc := 101) 1 dX14_readBoth_101 rfl rfl ?_
            exact y_reti hR dX14_readBoth_102 rfl hy39_2 Ws39 (Nat.le_of_ble_eq_true rfl) (Nat.le_of_ble_eq_true rfl) ⟨(rKeep.tr rKeep.rf kJ rfl rfl rfl rfl rfl), h⟩
          · have h := hF c
            refine z_aload_n hC (pc := 46) 0 dX14_readBoth_46 rfl rfl ?_
            refine z_bipush hC (pc := 47) (v := Int32.ofInt 38) dX14_readBoth_47 (by decide) ?_
            obtain ⟨p16, h⟩ := h
            refine y_callVi hC (pc := 49) (As := [iv 38]) (kX14_isTwice_t l G κ s39 38 Ws39 (r_lit rfl) p16) dmX14_isTwice zf14 rOb_0 dX14_readBoth_49 zw3270 rfl rfl (Nat.le_of_ble_eq_true rfl) (Nat.le_of_ble_eq_true rfl) (by omega) (by omega) (Nat.le_of_ble_eq_true rfl) (kk := fun v49 s49 hv49 Ws49 qs49 => ?_)
            obtain ⟨es49, qs49⟩ := qs49
            have es49 := es49.symm
            subst es49
            have h := h v49 hv49 qs49
            obtain ⟨hT, hF⟩ := h
            refine y_if_eq hC (pc := 52) 101 hv49 dX14_readBoth_52 (by decide) (fun c => ?_) (fun c => ?_)
            · have h := hT c
              refine z_iload_n hC (pc := 101) 1 dX14_readBoth_101 rfl rfl ?_
              exact y_reti hR dX14_readBoth_102 rfl hy39_2 Ws39 (Nat.le_of_ble_eq_true rfl) (Nat.le_of_ble_eq_true rfl) ⟨(rKeep.tr rKeep.rf kJ rfl rfl rfl rfl rfl), h⟩
            · have h := hF c
              refine z_aload_n hC (pc := 55) 0 dX14_readBoth_55 rfl rfl ?_
              refine z_dup hC (pc := 56) dX14_readBoth_56 rfl ?_
              refine y_get hC (pc := 57) zf14 rOb_0 29 (v := iv (rF s39 0 29)) dX14_readBoth_57 zw2496 (rv_i (Or.inl rfl) rfl) (kk := ?_)
              have h := h (Ws39.f _ _)
              refine z_iconst hC (pc := 60) (v := Int32.ofInt 2) dX14_readBoth_60 (by decide) ?_
              refine y_iadd hC (pc := 61) (v := ((rF s39 0 29) + 2)) dX14_readBoth_61 rfl ?_
              obtain ⟨r17, h⟩ := h
              refine y_putI hC (pc := 62) zf14 rOb_0 29 (x := ((rF s39 0 29) + 2)) dX14_readBoth_62 zw2496 (Or.inl rfl) rfl rfl (kk := ?_)
              have W18 := Ws39.sF (q := 0) (f := 29) (x := ((rF s39 0 29) + 2)) r17
              refine z_aload_n hC (pc := 65) 0 dX14_readBoth_65 rfl rfl ?_
              obtain ⟨g19, h⟩ := h
              obtain ⟨p20, h⟩ := h
              obtain ⟨p21, h⟩ := h
              refine y_callVi hC (pc := 66) (As := []) (qX14_readNot ih (sF s39 0 29 ((rF s39 0 29) + 2)) gg g19 W18  p20 p21) dmX14_readNot zf14 rOb_0 dX14_readBoth_66 zw3198 rfl rfl (Nat.le_of_ble_eq_true rfl) (Nat.le_of_ble_eq_true rfl) (by omega) (by omega) (Nat.le_of_ble_eq_true rfl) (kk := fun v66 s66 hv66 Ws66 qs66 => ?_)
              have h := h v66 s66 hv66 Ws66 (CCp.keep qs66.1 rfl rfl rfl rfl rfl rfl rfl) (qs66.1.R rfl) (qs66.1.F rfl) (qs66.1.F rfl) (qs66.1.F rfl) (qs66.1.F rfl) (qs66.1.F rfl) (qs66.1.F rfl) (fun i => qs66.1.A (f := 26) (by decide) rfl) qs66.2
              refine z_istore hC (pc := 69) (lv' := [(4, iv v66), (0, .ref (κ 0)), (2, iv y39_2), (3, iv y39_3)]) dX14_readBoth_69 (by decide) rfl ?_
              refine z_aload_n hC (pc := 71) 1 dX14_readBoth_71 rfl rfl ?_
              refine y_get hC (pc := 72) zf14 rOb_0 10 (v := iv (rF s66 0 10)) dX14_readBoth_72 zw2478 (rv_i (Or.inl rfl) rfl) (kk := ?_)
              have h := h (Ws66.f _ _)
              obtain ⟨hT, hF⟩ := h
              refine y_if_eq hC (pc := 75) 80 (Ws66.f _ _) dX14_readBoth_75 (by decide) (fun c => ?_) (fun c => ?_)
              · have h := hT c
                refine z_aload_n hC (pc := 80) 1 dX14_readBoth_80 rfl rfl ?_
                refine y_get hC (pc := 81) zf14 rOb_0 7 (v := .ref (κ (rR σ 7))) dX14_readBoth_81 zw2475 (rv_g rfl ((qs66.1.R rfl).trans (kJ.R rfl)) g0) (kk := ?_)
                refine y_getN hC (pc := 84) zf13 (rOb_k g0) 5 (v := .ref (κ (1000 * ((rR σ 7) + 1) + 5))) dX14_readBoth_84 zw2320 (rv_c rfl) (kk := ?_)
                refine z_iload_n hC (pc := 87) 3 dX14_readBoth_87 rfl rfl ?_
                refine z_iload hC (pc := 88) 0 dX14_readBoth_88 rfl ?_
                obtain ⟨b22, h⟩ := h
                refine y_iast hC (pc := 90) (rAr_k g0 rfl rfl) dX14_readBoth_90 b22 (v := v66) (kk := ?_)
                have W23 := Ws66.sA (p := (1000 * ((rR σ 7) + 1) + 5)) (i := y39_3) (x := v66) hv66
                refine z_iload hC (pc := 91) 0 dX14_readBoth_91 rfl ?_
                refine z_istore_n hC (pc := 93) (lv' := [(3, iv v66), (4, iv v66), (0, .ref (κ 0)), (2, iv y39_2)]) dX14_readBoth_93 rfl (by decide) rfl ?_
                refine z_aload_n hC (pc := 94) 2 dX14_readBoth_94 rfl rfl ?_
                obtain ⟨p24, h⟩ := h
                refine y_callVv hC (pc := 95) (As := []) (kX14_blanks l G κ (sT s66 (rR σ 7) 5 y39_3 v66)  W23  p24) dmX14_blanks zf14 rOb_0 dX14_readBoth_95 zw3119 rfl rfl (Nat.le_of_ble_eq_true rfl) (Nat.le_of_ble_eq_true rfl) (by omega) (by omega) (Nat.le_of_ble_eq_true rfl) (kk := fun s95 Ws95 qs95 => ?_)
                have h := h s95 Ws95 (rNMp.keep qs95.1 rfl rfl rfl rfl rfl) (WNp.keep qs95.1 rfl rfl rfl rfl rfl) (PNp.keep qs95.1 rfl rfl rfl rfl rfl) (CCp.keep qs95.1 rfl rfl rfl rfl rfl rfl rfl) (qs95.1.R rfl) (qs95.1.F rfl) (qs95.1.F rfl) (qs95.1.F rfl) (qs95.1.F rfl) (qs95.1.F rfl) (qs95.1.F rfl) (qs95.1.F rfl) (qs95.1.F rfl) (qs95.1.F rfl) (fun i => qs95.1.A (f := 26) (by decide) rfl) (qs95.1.FG g0 rfl) (qs95.1.FG g0 rfl) (qs95.1.FG g0 rfl) (qs95.1.FG g0 rfl) (qs95.1.FG g0 rfl) (fz_keep qs95.1 rfl) (RG.keep (c0 := 0) qs95.1 rfl rfl rfl rfl rfl rfl rfl rfl rfl rfl rfl rfl rfl rfl rfl rfl rfl rfl) qs95.2
                refine z_goto hC (pc := 98) 39 dX14_readBoth_98 (by decide) ?_
                refine z_lvs [2, 3, 0] rfl ?_
                obtain ⟨hI, hm⟩ := h
                exact ih39 s95 y39_2 v66 Ws95 hy39_2 hv66 (rKeep.tr (rKeep.tr (rKeep.tr (rKeep.tr (rKeep.tr rKeep.rf kJ rfl rfl rfl rfl rfl) (rKeep.sF0 (f := 29)) rfl rfl rfl rfl rfl) qs66.1 rfl rfl rfl rfl rfl) (rKeep.sAk (f := 5) g0 (by decide)) rfl rfl rfl rfl rfl) qs95.1 rfl rfl rfl rfl rfl) hI (by omega)
              · have h := hF c
                refine z_iconst hC (pc := 78) (v := Int32.ofInt 0) dX14_readBoth_78 (by decide) ?_
                exact y_reti hR dX14_readBoth_79 rfl (r_lit rfl) Ws66 (Nat.le_of_ble_eq_true rfl) (Nat.le_of_ble_eq_true rfl) ⟨(rKeep.tr (rKeep.tr (rKeep.tr rKeep.rf kJ rfl rfl rfl rfl rfl) (rKeep.sF0 (f := 29)) rfl rfl rfl rfl rfl) qs66.1 rfl rfl rfl rfl rfl), h⟩
      refine z_lvs [3, 1, 0] rfl ?_
      exact j39 _ s33 v33 v1 Ws33 hv33 hv1 (rKeep.tr (rKeep.tr (rKeep.tr rKeep.rf qs1.1 rfl rfl rfl rfl rfl) qs6.1 rfl rfl rfl rfl rfl) qs33.1 rfl rfl rfl rfl rfl) h (Nat.le_refl _)
    · have h := hF c
      refine z_iload_n hC (pc := 25) 0 dX14_readBoth_25 rfl rfl ?_
      exact y_reti hR dX14_readBoth_26 rfl hv1 Ws6 (Nat.le_of_ble_eq_true rfl) (Nat.le_of_ble_eq_true rfl) ⟨(rKeep.tr (rKeep.tr rKeep.rf qs1.1 rfl rfl rfl rfl rfl) qs6.1 rfl rfl rfl rfl rfl), h⟩
theorem kX14_readBoth (l : Launch) (G : zG) (κ : Nat → Nat) (n : Nat) (ih : Q_rd l G κ n) (σ : rS) (gg : Nat) (g : Nat → Int → Int) (hwf : rWF σ) (hp : pre_X14_readBoth σ gg g) (hr : rk_X14_readBoth σ gg g ≤ n + 1) : rMi l G κ yX14_readBoth cX14_readBoth 5 .int (n + 1 + 100) ((n + 1) * 40 + 3600) [.ref (κ 0)] σ (fun x s => rKeep 0x6c0a3001c00 0x4100001280 0x13c00000000 0x3ee0000d7f 0 σ s ∧ post_X14_readBoth σ gg g x s) := wX14_readBoth l G κ n ih σ gg g hwf (post_X14_readBoth σ gg g) (vX14_readBoth n σ gg g hwf hp hr) (vX14_readBoth_39 n σ gg g hwf hp hr) (vX14_readBoth_39m n σ gg g hwf hp hr)
theorem wX14_readCond (l : Launch) (G : zG) (κ : Nat → Nat) (n : Nat) (ih : Q_rd l G κ n) (σ : rS) (gg : Nat) (g : Nat → Int → Int) (hwf : rWF σ) (Q : Int → rS → Prop) (h : VC_X14_readCond n σ gg g Q) (h_39 : VC_X14_readCond_39 n σ gg g Q) (h_39m : VC_X14_readCond_39m n σ gg g) : rMi l G κ yX14_readCond cX14_readCond 5 .int (n + 1 + 100) ((n + 1) * 40 + 3600) [.ref (κ 0)] σ (fun x s => rKeep 0x6c0a3001c00 0x4100001280 0x13c00000000 0x3ee0000d7f 0 σ s ∧ Q x s) := by
  refine zMi.intro (by decide +kernel) (Nat.le_of_ble_eq_true rfl) (fun X hC hR => ?_)
  obtain ⟨g0, h⟩ := h
  refine z_aload_n hC (pc := 0) 0 dX14_readCond_0 rfl rfl ?_
  obtain ⟨g10, h⟩ := h
  obtain ⟨p11, h⟩ := h
  obtain ⟨p12, h⟩ := h
  refine y_callVi hC (pc := 1) (As := []) (qX14_readBoth ih σ gg g10 hwf  p11 p12) dmX14_readBoth zf14 rOb_0 dX14_readCond_1 zw3194 rfl rfl (Nat.le_of_ble_eq_true rfl) (Nat.le_of_ble_eq_true rfl) (by omega) (by omega) (Nat.le_of_ble_eq_true rfl) (kk := fun v1 s1 hv1 Ws1 qs1 => ?_)
  have h := h v1 s1 hv1 Ws1 (CCp.keep qs1.1 rfl rfl rfl rfl rfl rfl rfl) (qs1.1.R rfl) (qs1.1.F rfl) (qs1.1.F rfl) (qs1.1.F rfl) (qs1.1.F rfl) (qs1.1.F rfl) (qs1.1.F rfl) (fun i => qs1.1.A (f := 26) (by decide) rfl) qs1.2
  refine z_istore_n hC (pc := 4) (lv' := [(1, iv v1), (0, .ref (κ 0))]) dX14_readCond_4 rfl (by decide) rfl ?_
  refine z_aload_n hC (pc := 5) 1 dX14_readCond_5 rfl rfl ?_
  obtain ⟨p13, h⟩ := h
  refine y_callVv hC (pc := 6) (As := []) (kX14_blanks l G κ s1  Ws1  p13) dmX14_blanks zf14 rOb_0 dX14_readCond_6 zw3119 rfl rfl (Nat.le_of_ble_eq_true rfl) (Nat.le_of_ble_eq_true rfl) (by omega) (by omega) (Nat.le_of_ble_eq_true rfl) (kk := fun s6 Ws6 qs6 => ?_)
  have h := h s6 Ws6 (rNMp.keep qs6.1 rfl rfl rfl rfl rfl) (WNp.keep qs6.1 rfl rfl rfl rfl rfl) (PNp.keep qs6.1 rfl rfl rfl rfl rfl) (CCp.keep qs6.1 rfl rfl rfl rfl rfl rfl rfl) (qs6.1.R rfl) (qs6.1.F rfl) (qs6.1.F rfl) (qs6.1.F rfl) (qs6.1.F rfl) (qs6.1.F rfl) (qs6.1.F rfl) (qs6.1.F rfl) (qs6.1.F rfl) (qs6.1.F rfl) (fun i => qs6.1.A (f := 26) (by decide) rfl) (qs6.1.FG g0 rfl) (qs6.1.FG g0 rfl) (qs6.1.FG g0 rfl) (qs6.1.FG g0 rfl) (qs6.1.FG g0 rfl) (fz_keep qs6.1 rfl) (RG.keep (c0 := 0) qs6.1 rfl rfl rfl rfl rfl rfl rfl rfl rfl rfl rfl rfl rfl rfl rfl rfl rfl rfl) qs6.2
  refine z_aload_n hC (pc := 9) 1 dX14_readCond_9 rfl rfl ?_
  refine y_get hC (pc := 10) zf14 rOb_0 10 (v := iv (rF s6 0 10)) dX14_readCond_10 zw2478 (rv_i (Or.inl rfl) rfl) (kk := ?_)
  have h := h (Ws6.f _ _)
  obtain ⟨hT, hF⟩ := h
  refine y_if_ne hC (pc := 13) 25 (Ws6.f _ _) dX14_readCond_13 (by decide) (fun c => ?_) (fun c => ?_)
  · have h := hT c
    refine z_iload_n hC (pc := 25) 0 dX14_readCond_25 rfl rfl ?_
    exact y_reti hR dX14_readCond_26 rfl hv1 Ws6 (Nat.le_of_ble_eq_true rfl) (Nat.le_of_ble_eq_true rfl) ⟨(rKeep.tr (rKeep.tr rKeep.rf qs1.1 rfl rfl rfl rfl rfl) qs6.1 rfl rfl rfl rfl rfl), h⟩
  · have h := hF c
    refine z_aload_n hC (pc := 16) 1 dX14_readCond_16 rfl rfl ?_
    refine z_bipush hC (pc := 17) (v := Int32.ofInt 124) dX14_readCond_17 (by decide) ?_
    obtain ⟨p14, h⟩ := h
    refine y_callVi hC (pc := 19) (As := [iv 124]) (kX14_isTwice_t l G κ s6 124 Ws6 (r_lit rfl) p14) dmX14_isTwice zf14 rOb_0 dX14_readCond_19 zw3270 rfl rfl (Nat.le_of_ble_eq_true rfl) (Nat.le_of_ble_eq_true rfl) (by omega) (by omega) (Nat.le_of_ble_eq_true rfl) (kk := fun v19 s19 hv19 Ws19 qs19 => ?_)
    obtain ⟨es19, qs19⟩ := qs19
    have es19 := es19.symm
    subst es19
    have h := h v19 hv19 qs19
    obtain ⟨hT, hF⟩ := h
    refine y_if_ne hC (pc := 22) 27 hv19 dX14_readCond_22 (by decide) (fun c => ?_) (fun c => ?_)
    · have h := hT c
      refine z_aload_n hC (pc := 27) 1 dX14_readCond_27 rfl rfl ?_
      refine z_bipush hC (pc := 28) (v := Int32.ofInt 55) dX14_readCond_28 (by decide) ?_
      refine z_iload_n hC (pc := 30) 0 dX14_readCond_30 rfl rfl ?_
      refine z_iconst hC (pc := 31) (v := Int32.ofInt 0) dX14_readCond_31 (by decide) ?_
      refine z_iconst hC (pc := 32) (v := Int32.ofInt 0) dX14_readCond_32 (by decide) ?_
      obtain ⟨p15, h⟩ := h
      refine y_callVi hC (pc := 33) (As := [iv 55, iv v1, iv 0, iv 0]) (kX14_node_t l G κ s6 55 v1 0 0 gg Ws6 (r_lit rfl) hv1 (r_lit rfl) (r_lit rfl) p15) dmX14_node zf14 rOb_0 dX14_readCond_33 zw3170 rfl rfl (Nat.le_of_ble_eq_true rfl) (Nat.le_of_ble_eq_true rfl) (by omega) (by omega) (Nat.le_of_ble_eq_true rfl) (kk := fun v33 s33 hv33 Ws33 qs33 => ?_)
      have h := h v33 s33 hv33 Ws33 (rNMp.keep qs33.1 rfl rfl rfl rfl rfl) (WNp.keep qs33.1 rfl rfl rfl rfl rfl) (CCp.keep qs33.1 rfl rfl rfl rfl rfl rfl rfl) (qs33.1.R rfl) (qs33.1.F rfl) (qs33.1.F rfl) (qs33.1.F rfl) (qs33.1.F rfl) (qs33.1.F rfl) (qs33.1.F rfl) (qs33.1.F rfl) (qs33.1.F rfl) (qs33.1.F rfl) (qs33.1.F rfl) (fun i => qs33.1.A (f := 26) (by decide) rfl) (qs33.1.FG g0 rfl) (qs33.1.FG g0 rfl) (qs33.1.FG g0 rfl) (qs33.1.FG g0 rfl) (fz_keep qs33.1 rfl) qs33.2
      refine z_istore_n hC (pc := 36) (lv' := [(2, iv v33), (1, iv v1), (0, .ref (κ 0))]) dX14_readCond_36 rfl (by decide) rfl ?_
      refine z_iload_n hC (pc := 37) 1 dX14_readCond_37 rfl rfl ?_
      refine z_istore_n hC (pc := 38) (lv' := [(3, iv v1), (2, iv v33), (1, iv v1), (0, .ref (κ 0))]) dX14_readCond_38 rfl (by decide) rfl ?_
      have j39 : ∀ (d39 : Nat), ∀ (s39 : rS) (y39_2 : Int) (y39_3 : Int), rWF s39 → rng y39_2 → rng y39_3 → rKeep 0x6c0a3001c00 0x4100001280 0x13c00000000 0x3ee0000d7f 0 σ s39 → inv_X14_readCond_39 σ gg g s39 y39_2 y39_3 → (mu_X14_readCond_39 σ gg g s39 y39_2 y39_3) ≤ d39 → zS X G 5 (rW G κ s39) [(0, .ref (κ 0)), (2, iv y39_2), (3, iv y39_3)] 0 0 39 [] := by
        intro d39
        induction d39 with
        | zero =>
          intro s39 y39_2 y39_3 Ws39 hy39_2 hy39_3 kJ hI hmu
          exact absurd hmu (by have := h_39m  s39 y39_2 y39_3 Ws39 hy39_2 hy39_3 (CCp.keep kJ rfl rfl rfl rfl rfl rfl rfl) (kJ.R rfl) (kJ.F rfl) (kJ.F rfl) (kJ.F rfl) (kJ.F rfl) (kJ.F rfl) (kJ.F rfl) (fun i => kJ.A (f := 26) (by decide) rfl) hI; omega)
        | succ d39 ih39 =>
          intro s39 y39_2 y39_3 Ws39 hy39_2 hy39_3 kJ hI hmu39
          have h := h_39  s39 y39_2 y39_3 Ws39 hy39_2 hy39_3 (CCp.keep kJ rfl rfl rfl rfl rfl rfl rfl) (kJ.R rfl) (kJ.F rfl) (kJ.F rfl) (kJ.F rfl) (kJ.F rfl) (kJ.F rfl) (kJ.F rfl) (fun i => kJ.A (f := 26) (by decide) rfl) hI
          refine z_aload_n hC (pc := 39) 0 dX14_readCond_39 rfl rfl ?_
          refine y_get hC (pc := 40) zf14 rOb_0 10 (v := iv (rF s39 0 10)) dX14_readCond_40 zw2478 (rv_i (Or.inl rfl) rfl) (kk := ?_)
          have h := h (Ws39.f _ _)
          obtain ⟨hT, hF⟩ := h
          refine y_if_ne hC (pc := 43) 101 (Ws39.f _ _) dX14_readCond_43 (by decide) (fun c => ?_) (fun c => ?_)
          · have h := hT c
            refine z_iload_n hC (pc := 101) 1 dX14_readCond_101 rfl rfl ?_
            exact y_reti hR dX14_readCond_102 rfl hy39_2 Ws39 (Nat.le_of_ble_eq_true rfl) (Nat.le_of_ble_eq_true rfl) ⟨(rKeep.tr rKeep.rf kJ rfl rfl rfl rfl rfl), h⟩
          · have h := hF c
            refine z_aload_n hC (pc := 46) 0 dX14_readCond_46 rfl rfl ?_
            refine z_bipush hC (pc := 47) (v := Int32.ofInt 124) dX14_readCond_47 (by decide) ?_
            obtain ⟨p16, h⟩ := h
            refine y_callVi hC (pc := 49) (As := [iv 124]) (kX14_isTwice_t l G κ s39 124 Ws39 (r_lit rfl) p16) dmX14_isTwice zf14 rOb_0 dX14_readCond_49 zw3270 rfl rfl (Nat.le_of_ble_eq_true rfl) (Nat.le_of_ble_eq_true rfl) (by omega) (by omega) (Nat.le_of_ble_eq_true rfl) (kk := fun v49 s49 hv49 Ws49 qs49 => ?_)
            obtain ⟨es49, qs49⟩ := qs49
            have es49 := es49.symm
            subst es49
            have h := h v49 hv49 qs49
            obtain ⟨hT, hF⟩ := h
            refine y_if_eq hC (pc := 52) 101 hv49 dX14_readCond_52 (by decide) (fun c => ?_) (fun c => ?_)
            · have h := hT c
              refine z_iload_n hC (pc := 101) 1 dX14_readCond_101 rfl rfl ?_
              exact y_reti hR dX14_readCond_102 rfl hy39_2 Ws39 (Nat.le_of_ble_eq_true rfl) (Nat.le_of_ble_eq_true rfl) ⟨(rKeep.tr rKeep.rf kJ rfl rfl rfl rfl rfl), h⟩
            · have h := hF c
              refine z_aload_n hC (pc := 55) 0 dX14_readCond_55 rfl rfl ?_
              refine z_dup hC (pc := 56) dX14_readCond_56 rfl ?_
              refine y_get hC (pc := 57) zf14 rOb_0 29 (v := iv (rF s39 0 29)) dX14_readCond_57 zw2496 (rv_i (Or.inl rfl) rfl) (kk := ?_)
              have h := h (Ws39.f _ _)
              refine z_iconst hC (pc := 60) (v := Int32.ofInt 2) dX14_readCond_60 (by decide) ?_
              refine y_iadd hC (pc := 61) (v := ((rF s39 0 29) + 2)) dX14_readCond_61 rfl ?_
              obtain ⟨r17, h⟩ := h
              refine y_putI hC (pc := 62) zf14 rOb_0 29 (x := ((rF s39 0 29) + 2)) dX14_readCond_62 zw2496 (Or.inl rfl) rfl rfl (kk := ?_)
              have W18 := Ws39.sF (q := 0) (f := 29) (x := ((rF s39 0 29) + 2)) r17
              refine z_aload_n hC (pc := 65) 0 dX14_readCond_65 rfl rfl ?_
              obtain ⟨g19, h⟩ := h
              obtain ⟨p20, h⟩ := h
              obtain ⟨p21, h⟩ := h
              refine y_callVi hC (pc := 66) (As := []) (qX14_readBoth ih (sF s39 0 29 ((rF s39 0 29) + 2)) gg g19 W18  p20 p21) dmX14_readBoth zf14 rOb_0 dX14_readCond_66 zw3194 rfl rfl (Nat.le_of_ble_eq_true rfl) (Nat.le_of_ble_eq_true rfl) (by omega) (by omega) (Nat.le_of_ble_eq_true rfl) (kk := fun v66 s66 hv66 Ws66 qs66 => ?_)
              have h := h v66 s66 hv66 Ws66 (CCp.keep qs66.1 rfl rfl rfl rfl rfl rfl rfl) (qs66.1.R rfl) (qs66.1.F rfl) (qs66.1.F rfl) (qs66.1.F rfl) (qs66.1.F rfl) (qs66.1.F rfl) (qs66.1.F rfl) (fun i => qs66.1.A (f := 26) (by decide) rfl) qs66.2
              refine z_istore hC (pc := 69) (lv' := [(4, iv v66), (0, .ref (κ 0)), (2, iv y39_2), (3, iv y39_3)]) dX14_readCond_69 (by decide) rfl ?_
              refine z_aload_n hC (pc := 71) 1 dX14_readCond_71 rfl rfl ?_
              refine y_get hC (pc := 72) zf14 rOb_0 10 (v := iv (rF s66 0 10)) dX14_readCond_72 zw2478 (rv_i (Or.inl rfl) rfl) (kk := ?_)
              have h := h (Ws66.f _ _)
              obtain ⟨hT, hF⟩ := h
              refine y_if_eq hC (pc := 75) 80 (Ws66.f _ _) dX14_readCond_75 (by decide) (fun c => ?_) (fun c => ?_)
              · have h := hT c
                refine z_aload_n hC (pc := 80) 1 dX14_readCond_80 rfl rfl ?_
                refine y_get hC (pc := 81) zf14 rOb_0 7 (v := .ref (κ (rR σ 7))) dX14_readCond_81 zw2475 (rv_g rfl ((qs66.1.R rfl).trans (kJ.R rfl)) g0) (kk := ?_)
                refine y_getN hC (pc := 84) zf13 (rOb_k g0) 5 (v := .ref (κ (1000 * ((rR σ 7) + 1) + 5))) dX14_readCond_84 zw2320 (rv_c rfl) (kk := ?_)
                refine z_iload_n hC (pc := 87) 3 dX14_readCond_87 rfl rfl ?_
                refine z_iload hC (pc := 88) 0 dX14_readCond_88 rfl ?_
                obtain ⟨b22, h⟩ := h
                refine y_iast hC (pc := 90) (rAr_k g0 rfl rfl) dX14_readCond_90 b22 (v := v66) (kk := ?_)
                have W23 := Ws66.sA (p := (1000 * ((rR σ 7) + 1) + 5)) (i := y39_3) (x := v66) hv66
                refine z_iload hC (pc := 91) 0 dX14_readCond_91 rfl ?_
                refine z_istore_n hC (pc := 93) (lv' := [(3, iv v66), (4, iv v66), (0, .ref (κ 0)), (2, iv y39_2)]) dX14_readCond_93 rfl (by decide) rfl ?_
                refine z_aload_n hC (pc := 94) 2 dX14_readCond_94 rfl rfl ?_
                obtain ⟨p24, h⟩ := h
                refine y_callVv hC (pc := 95) (As := []) (kX14_blanks l G κ (sT s66 (rR σ 7) 5 y39_3 v66)  W23  p24) dmX14_blanks zf14 rOb_0 dX14_readCond_95 zw3119 rfl rfl (Nat.le_of_ble_eq_true rfl) (Nat.le_of_ble_eq_true rfl) (by omega) (by omega) (Nat.le_of_ble_eq_true rfl) (kk := fun s95 Ws95 qs95 => ?_)
                have h := h s95 Ws95 (rNMp.keep qs95.1 rfl rfl rfl rfl rfl) (WNp.keep qs95.1 rfl rfl rfl rfl rfl) (PNp.keep qs95.1 rfl rfl rfl rfl rfl) (CCp.keep qs95.1 rfl rfl rfl rfl rfl rfl rfl) (qs95.1.R rfl) (qs95.1.F rfl) (qs95.1.F rfl) (qs95.1.F rfl) (qs95.1.F rfl) (qs95.1.F rfl) (qs95.1.F rfl) (qs95.1.F rfl) (qs95.1.F rfl) (qs95.1.F rfl) (fun i => qs95.1.A (f := 26) (by decide) rfl) (qs95.1.FG g0 rfl) (qs95.1.FG g0 rfl) (qs95.1.FG g0 rfl) (qs95.1.FG g0 rfl) (qs95.1.FG g0 rfl) (fz_keep qs95.1 rfl) (RG.keep (c0 := 0) qs95.1 rfl rfl rfl rfl rfl rfl rfl rfl rfl rfl rfl rfl rfl rfl rfl rfl rfl rfl) qs95.2
                refine z_goto hC (pc := 98) 39 dX14_readCond_98 (by decide) ?_
                refine z_lvs [2, 3, 0] rfl ?_
                obtain ⟨hI, hm⟩ := h
                exact ih39 s95 y39_2 v66 Ws95 hy39_2 hv66 (rKeep.tr (rKeep.tr (rKeep.tr (rKeep.tr (rKeep.tr rKeep.rf kJ rfl rfl rfl rfl rfl) (rKeep.sF0 (f := 29)) rfl rfl rfl rfl rfl) qs66.1 rfl rfl rfl rfl rfl) (rKeep.sAk (f := 5) g0 (by decide)) rfl rfl rfl rfl rfl) qs95.1 rfl rfl rfl rfl rfl) hI (by omega)
              · have h := hF c
                refine z_iconst hC (pc := 78) (v := Int32.ofInt 0) dX14_readCond_78 (by decide) ?_
                exact y_reti hR dX14_readCond_79 rfl (r_lit rfl) Ws66 (Nat.le_of_ble_eq_true rfl) (Nat.le_of_ble_eq_true rfl) ⟨(rKeep.tr (rKeep.tr (rKeep.tr rKeep.rf kJ rfl rfl rfl rfl rfl) (rKeep.sF0 (f := 29)) rfl rfl rfl rfl rfl) qs66.1 rfl rfl rfl rfl rfl), h⟩
      refine z_lvs [3, 1, 0] rfl ?_
      exact j39 _ s33 v33 v1 Ws33 hv33 hv1 (rKeep.tr (rKeep.tr (rKeep.tr rKeep.rf qs1.1 rfl rfl rfl rfl rfl) qs6.1 rfl rfl rfl rfl rfl) qs33.1 rfl rfl rfl rfl rfl) h (Nat.le_refl _)
    · have h := hF c
      refine z_iload_n hC (pc := 25) 0 dX14_readCond_25 rfl rfl ?_
      exact y_reti hR dX14_readCond_26 rfl hv1 Ws6 (Nat.le_of_ble_eq_true rfl) (Nat.le_of_ble_eq_true rfl) ⟨(rKeep.tr (rKeep.tr rKeep.rf qs1.1 rfl rfl rfl rfl rfl) qs6.1 rfl rfl rfl rfl rfl), h⟩
theorem kX14_readCond (l : Launch) (G : zG) (κ : Nat → Nat) (n : Nat) (ih : Q_rd l G κ n) (σ : rS) (gg : Nat) (g : Nat → Int → Int) (hwf : rWF σ) (hp : pre_X14_readCond σ gg g) (hr : rk_X14_readCond σ gg g ≤ n + 1) : rMi l G κ yX14_readCond cX14_readCond 5 .int (n + 1 + 100) ((n + 1) * 40 + 3600) [.ref (κ 0)] σ (fun x s => rKeep 0x6c0a3001c00 0x4100001280 0x13c00000000 0x3ee0000d7f 0 σ s ∧ post_X14_readCond σ gg g x s) := wX14_readCond l G κ n ih σ gg g hwf (post_X14_readCond σ gg g) (vX14_readCond n σ gg g hwf hp hr) (vX14_readCond_39 n σ gg g hwf hp hr) (vX14_readCond_39m n σ gg g hwf hp hr)
theorem wX14_condition (l : Launch) (G : zG) (κ : Nat → Nat) (n : Nat) (ih : Q_rd l G κ n) (σ : rS) (gg : Nat) (g : Nat → Int → Int) (hwf : rWF σ) (Q : Int → rS → Prop) (h : VC_X14_condition n σ gg g Q) : rMi l G κ yX14_condition cX14_condition 2 .int (n + 1 + 100) ((n + 1) * 40 + 3600) [.ref (κ 0)] σ (fun x s => rKeep 0x6c0a3001c00 0x4100001280 0x13c00000000 0x3ee0000d7f 0 σ s ∧ Q x s) := by
  refine zMi.intro (by decide +kernel) (Nat.le_of_ble_eq_true rfl) (fun X hC hR => ?_)
  obtain ⟨g0, h⟩ := h
  refine z_aload_n hC (pc := 0) 0 dX14_condition_0 rfl rfl ?_
  refine y_get hC (pc := 1) zf14 rOb_0 10 (v := iv (rF σ 0 10)) dX14_condition_1 zw2478 (rv_i (Or.inl rfl) rfl) (kk := ?_)
  have h := h (hwf.f _ _)
  obtain ⟨hT, hF⟩ := h
  refine y_if_eq hC (pc := 4) 9 (hwf.f _ _) dX14_condition_4 (by decide) (fun c => ?_) (fun c => ?_)
  · have h := hT c
    refine z_aload_n hC (pc := 9) 0 dX14_condition_9 rfl rfl ?_
    refine z_bipush hC (pc := 10) (v := Int32.ofInt 40) dX14_condition_10 (by decide) ?_
    obtain ⟨p10, h⟩ := h
    refine y_callVv hC (pc := 12) (As := [iv 40]) (kX14_need l G κ σ 40 hwf (r_lit rfl) p10) dmX14_need zf14 rOb_0 dX14_condition_12 zw3136 rfl rfl (Nat.le_of_ble_eq_true rfl) (Nat.le_of_ble_eq_true rfl) (by omega) (by omega) (Nat.le_of_ble_eq_true rfl) (kk := fun s12 Ws12 qs12 => ?_)
    have h := h s12 Ws12 (rNMp.keep qs12.1 rfl rfl rfl rfl rfl) (TPRp.keep qs12.1 rfl rfl rfl) (WNp.keep qs12.1 rfl rfl rfl rfl rfl) (PNp.keep qs12.1 rfl rfl rfl rfl rfl) (CCp.keep qs12.1 rfl rfl rfl rfl rfl rfl rfl) (qs12.1.R rfl) (qs12.1.F rfl) (qs12.1.F rfl) (qs12.1.F rfl) (qs12.1.F rfl) (qs12.1.F rfl) (qs12.1.F rfl) (qs12.1.F rfl) (qs12.1.F rfl) (qs12.1.F rfl) (fun i => qs12.1.A (f := 26) (by decide) rfl) (qs12.1.FG g0 rfl) (qs12.1.FG g0 rfl) (qs12.1.FG g0 rfl) (qs12.1.FG g0 rfl) (qs12.1.FG g0 rfl) (RG.keep (c0 := 0) qs12.1 rfl rfl rfl rfl rfl rfl rfl rfl rfl rfl rfl rfl rfl rfl rfl rfl rfl rfl) qs12.2
    refine z_aload_n hC (pc := 15) 0 dX14_condition_15 rfl rfl ?_
    obtain ⟨g11, h⟩ := h
    obtain ⟨p12, h⟩ := h
    obtain ⟨p13, h⟩ := h
    refine y_callVi hC (pc := 16) (As := []) (qX14_readCond ih s12 gg g11 Ws12  p12 p13) dmX14_readCond zf14 rOb_0 dX14_condition_16 zw3190 rfl rfl (Nat.le_of_ble_eq_true rfl) (Nat.le_of_ble_eq_true rfl) (by omega) (by omega) (Nat.le_of_ble_eq_true rfl) (kk := fun v16 s16 hv16 Ws16 qs16 => ?_)
    have h := h v16 s16 hv16 Ws16 (TPRp.keep qs16.1 rfl rfl rfl) (CCp.keep qs16.1 rfl rfl rfl rfl rfl rfl rfl) (qs16.1.R rfl) (qs16.1.F rfl) (qs16.1.F rfl) (qs16.1.F rfl) (qs16.1.F rfl) (qs16.1.F rfl) (qs16.1.F rfl) (fun i => qs16.1.A (f := 26) (by decide) rfl) qs16.2
    refine z_istore_n hC (pc := 19) (lv' := [(1, iv v16), (0, .ref (κ 0))]) dX14_condition_19 rfl (by decide) rfl ?_
    refine z_aload_n hC (pc := 20) 1 dX14_condition_20 rfl rfl ?_
    refine z_bipush hC (pc := 21) (v := Int32.ofInt 41) dX14_condition_21 (by decide) ?_
    obtain ⟨p14, h⟩ := h
    refine y_callVv hC (pc := 23) (As := [iv 41]) (kX14_need l G κ s16 41 Ws16 (r_lit rfl) p14) dmX14_need zf14 rOb_0 dX14_condition_23 zw3136 rfl rfl (Nat.le_of_ble_eq_true rfl) (Nat.le_of_ble_eq_true rfl) (by omega) (by omega) (Nat.le_of_ble_eq_true rfl) (kk := fun s23 Ws23 qs23 => ?_)
    have h := h s23 Ws23 (rNMp.keep qs23.1 rfl rfl rfl rfl rfl) (TPRp.keep qs23.1 rfl rfl rfl) (WNp.keep qs23.1 rfl rfl rfl rfl rfl) (PNp.keep qs23.1 rfl rfl rfl rfl rfl) (CCp.keep qs23.1 rfl rfl rfl rfl rfl rfl rfl) (qs23.1.R rfl) (qs23.1.F rfl) (qs23.1.F rfl) (qs23.1.F rfl) (qs23.1.F rfl) (qs23.1.F rfl) (qs23.1.F rfl) (qs23.1.F rfl) (qs23.1.F rfl) (qs23.1.F rfl) (fun i => qs23.1.A (f := 26) (by decide) rfl) (qs23.1.FG g0 rfl) (qs23.1.FG g0 rfl) (qs23.1.FG g0 rfl) (qs23.1.FG g0 rfl) (qs23.1.FG g0 rfl) (RG.keep (c0 := 0) qs23.1 rfl rfl rfl rfl rfl rfl rfl rfl rfl rfl rfl rfl rfl rfl rfl rfl rfl rfl) qs23.2
    refine z_aload_n hC (pc := 26) 1 dX14_condition_26 rfl rfl ?_
    refine z_aload_n hC (pc := 27) 1 dX14_condition_27 rfl rfl ?_
    refine y_get hC (pc := 28) zf14 rOb_0 19 (v := iv (rF s23 0 19)) dX14_condition_28 zw2486 (rv_i (Or.inl rfl) rfl) (kk := ?_)
    have h := h (Ws23.f _ _)
    obtain ⟨p15, h⟩ := h
    refine y_callVv hC (pc := 31) (As := [iv (rF s23 0 19)]) (kX14_need l G κ s23 (rF s23 0 19) Ws23 (Ws23.f _ _) p15) dmX14_need zf14 rOb_0 dX14_condition_31 zw3136 rfl rfl (Nat.le_of_ble_eq_true rfl) (Nat.le_of_ble_eq_true rfl) (by omega) (by omega) (Nat.le_of_ble_eq_true rfl) (kk := fun s31 Ws31 qs31 => ?_)
    have h := h s31 Ws31 (rNMp.keep qs31.1 rfl rfl rfl rfl rfl) (TPRp.keep qs31.1 rfl rfl rfl) (WNp.keep qs31.1 rfl rfl rfl rfl rfl) (PNp.keep qs31.1 rfl rfl rfl rfl rfl) (CCp.keep qs31.1 rfl rfl rfl rfl rfl rfl rfl) (qs31.1.R rfl) (qs31.1.F rfl) (qs31.1.F rfl) (qs31.1.F rfl) (qs31.1.F rfl) (qs31.1.F rfl) (qs31.1.F rfl) (qs31.1.F rfl) (qs31.1.F rfl) (qs31.1.F rfl) (fun i => qs31.1.A (f := 26) (by decide) rfl) (qs31.1.FG g0 rfl) (qs31.1.FG g0 rfl) (qs31.1.FG g0 rfl) (qs31.1.FG g0 rfl) (qs31.1.FG g0 rfl) (RG.keep (c0 := 0) qs31.1 rfl rfl rfl rfl rfl rfl rfl rfl rfl rfl rfl rfl rfl rfl rfl rfl rfl rfl) qs31.2
    refine z_iload_n hC (pc := 34) 0 dX14_condition_34 rfl rfl ?_
    exact y_reti hR dX14_condition_35 rfl hv16 Ws31 (Nat.le_of_ble_eq_true rfl) (Nat.le_of_ble_eq_true rfl) ⟨(rKeep.tr (rKeep.tr (rKeep.tr (rKeep.tr rKeep.rf qs12.1 rfl rfl rfl rfl rfl) qs16.1 rfl rfl rfl rfl rfl) qs23.1 rfl rfl rfl rfl rfl) qs31.1 rfl rfl rfl rfl rfl), h⟩
  · have h := hF c
    refine z_iconst hC (pc := 7) (v := Int32.ofInt 0) dX14_condition_7 (by decide) ?_
    exact y_reti hR dX14_condition_8 rfl (r_lit rfl) hwf (Nat.le_of_ble_eq_true rfl) (Nat.le_of_ble_eq_true rfl) ⟨rKeep.rf, h⟩
theorem kX14_condition (l : Launch) (G : zG) (κ : Nat → Nat) (n : Nat) (ih : Q_rd l G κ n) (σ : rS) (gg : Nat) (g : Nat → Int → Int) (hwf : rWF σ) (hp : pre_X14_condition σ gg g) (hr : rk_X14_condition σ gg g ≤ n + 1) : rMi l G κ yX14_condition cX14_condition 2 .int (n + 1 + 100) ((n + 1) * 40 + 3600) [.ref (κ 0)] σ (fun x s => rKeep 0x6c0a3001c00 0x4100001280 0x13c00000000 0x3ee0000d7f 0 σ s ∧ post_X14_condition σ gg g x s) := wX14_condition l G κ n ih σ gg g hwf (post_X14_condition σ gg g) (vX14_condition n σ gg g hwf hp hr) 
theorem wX14_readOptions (l : Launch) (G : zG) (κ : Nat → Nat) (n : Nat) (ih : Q_rd l G κ n) (σ : rS) (x1 : Int) (gg : Nat) (g : Nat → Int → Int) (hwf : rWF σ) (hx1 : rng x1) (Q : rS → Prop) (h : VC_X14_readOptions n σ x1 gg g Q) (h_325 : VC_X14_readOptions_325 n σ x1 gg g Q) (h_199 : VC_X14_readOptions_199 n σ x1 gg g Q) (h_148 : VC_X14_readOptions_148 n σ x1 gg g Q) (h_148m : VC_X14_readOptions_148m n σ x1 gg g) (h_25 : VC_X14_readOptions_25 n σ x1 gg g Q) (h_25m : VC_X14_readOptions_25m n σ x1 gg g) : rMv l G κ yX14_readOptions cX14_readOptions 6 (n + 1 + 100) ((n + 1) * 40 + 3600) [.ref (κ 0), iv x1] σ (fun s => rKeep 0x6c0a3001c00 0x4100001280 0x13c00000000 0x3ee0000d7f 0 σ s ∧ Q s) := by
  refine zMv.intro (by decide +kernel) (Nat.le_of_ble_eq_true rfl) (fun X hC hR => ?_)
  obtain ⟨g0, h⟩ := h
  refine z_aload_n hC (pc := 0) 0 dX14_readOptions_0 rfl rfl ?_
  obtain ⟨p10, h⟩ := h
  refine y_callVv hC (pc := 1) (As := []) (kX14_blanks l G κ σ  hwf  p10) dmX14_blanks zf14 rOb_0 dX14_readOptions_1 zw3119 rfl rfl (Nat.le_of_ble_eq_true rfl) (Nat.le_of_ble_eq_true rfl) (by omega) (by omega) (Nat.le_of_ble_eq_true rfl) (kk := fun s1 Ws1 qs1 => ?_)
  have h := h s1 Ws1 (rNMp.keep qs1.1 rfl rfl rfl rfl rfl) (TPRp.keep qs1.1 rfl rfl rfl) (WNp.keep qs1.1 rfl rfl rfl rfl rfl) (PNp.keep qs1.1 rfl rfl rfl rfl rfl) (CCp.keep qs1.1 rfl rfl rfl rfl rfl rfl rfl) (qs1.1.R rfl) (qs1.1.F rfl) (qs1.1.F rfl) (qs1.1.F rfl) (qs1.1.F rfl) (qs1.1.F rfl) (qs1.1.F rfl) (qs1.1.F rfl) (qs1.1.F rfl) (qs1.1.F rfl) (qs1.1.F rfl) (fun i => qs1.1.A (f := 26) (by decide) rfl) (qs1.1.FG g0 rfl) (qs1.1.FG g0 rfl) (qs1.1.FG g0 rfl) (qs1.1.FG g0 rfl) (qs1.1.FG g0 rfl) (fz_keep qs1.1 rfl) (RG.keep (c0 := 0) qs1.1 rfl rfl rfl rfl rfl rfl rfl rfl rfl rfl rfl rfl rfl rfl rfl rfl rfl rfl) qs1.2
  refine z_aload_n hC (pc := 4) 0 dX14_readOptions_4 rfl rfl ?_
  obtain ⟨p11, h⟩ := h
  refine y_callVi hC (pc := 5) (As := []) (kX14_here l G κ s1  Ws1  p11) dmX14_here zf14 rOb_0 dX14_readOptions_5 zw3099 rfl rfl (Nat.le_of_ble_eq_true rfl) (Nat.le_of_ble_eq_true rfl) (by omega) (by omega) (Nat.le_of_ble_eq_true rfl) (kk := fun v5 s5 hv5 Ws5 qs5 => ?_)
  obtain ⟨es5, qs5⟩ := qs5
  have es5 := es5.symm
  subst es5
  have h := h v5 hv5 qs5
  refine z_bipush hC (pc := 8) (v := Int32.ofInt 59) dX14_readOptions_8 (by decide) ?_
  obtain ⟨hT, hF⟩ := h
  refine y_icmp_ne hC (pc := 10) 20 hv5 (r_lit rfl) dX14_readOptions_10 (by decide) (fun c => ?_) (fun c => ?_)
  · have h := hT c
    exact y_retv hR dX14_readOptions_20 Ws1 (Nat.le_of_ble_eq_true rfl) (Nat.le_of_ble_eq_true rfl) ⟨(rKeep.tr rKeep.rf qs1.1 rfl rfl rfl rfl rfl), h⟩
  · have h := hF c
    refine z_aload_n hC (pc := 13) 0 dX14_readOptions_13 rfl rfl ?_
    refine y_get hC (pc := 14) zf14 rOb_0 10 (v := iv (rF s1 0 10)) dX14_readOptions_14 zw2478 (rv_i (Or.inl rfl) rfl) (kk := ?_)
    have h := h (Ws1.f _ _)
    obtain ⟨hT, hF⟩ := h
    refine y_if_eq hC (pc := 17) 21 (Ws1.f _ _) dX14_readOptions_17 (by decide) (fun c => ?_) (fun c => ?_)
    · have h := hT c
      refine z_iconst hC (pc := 21) (v := Int32.ofInt 0) dX14_readOptions_21 (by decide) ?_
      refine z_istore_n hC (pc := 22) (lv' := [(2, iv 0), (0, .ref (κ 0)), (1, iv x1)]) dX14_readOptions_22 rfl (by decide) rfl ?_
      refine z_iconst hC (pc := 23) (v := Int32.ofInt 1) dX14_readOptions_23 (by decide) ?_
      refine z_istore_n hC (pc := 24) (lv' := [(3, iv 1), (2, iv 0), (0, .ref (κ 0)), (1, iv x1)]) dX14_readOptions_24 rfl (by decide) rfl ?_
      have j25 : ∀ (d25 : Nat), ∀ (s25 : rS) (y25_2 : Int) (y25_3 : Int), rWF s25 → rng y25_2 → rng y25_3 → rKeep 0x6c0a3001c00 0x4100001280 0x13c00000000 0x3ee0000d7f 0 σ s25 → inv_X14_readOptions_25 σ x1 gg g s25 y25_2 y25_3 → (mu_X14_readOptions_25 σ x1 gg g s25 y25_2 y25_3) ≤ d25 → zS X G 6 (rW G κ s25) [(0, .ref (κ 0)), (1, iv x1), (2, iv y25_2), (3, iv y25_3)] 0 0 25 [] := by
        intro d25
        induction d25 with
        | zero =>
          intro s25 y25_2 y25_3 Ws25 hy25_2 hy25_3 kJ hI hmu
          exact absurd hmu (by have := h_25m  s25 y25_2 y25_3 Ws25 hy25_2 hy25_3 (TPRp.keep kJ rfl rfl rfl) (CCp.keep kJ rfl rfl rfl rfl rfl rfl rfl) (kJ.R rfl) (kJ.F rfl) (kJ.F rfl) (kJ.F rfl) (kJ.F rfl) (kJ.F rfl) (kJ.F rfl) (fun i => kJ.A (f := 26) (by decide) rfl) hI; omega)
        | succ d25 ih25 =>
          intro s25 y25_2 y25_3 Ws25 hy25_2 hy25_3 kJ hI hmu25
          have h := h_25  s25 y25_2 y25_3 Ws25 hy25_2 hy25_3 (TPRp.keep kJ rfl rfl rfl) (CCp.keep kJ rfl rfl rfl rfl rfl rfl rfl) (kJ.R rfl) (kJ.F rfl) (kJ.F rfl) (kJ.F rfl) (kJ.F rfl) (kJ.F rfl) (kJ.F rfl) (fun i => kJ.A (f := 26) (by decide) rfl) hI
          refine z_iload_n hC (pc := 25) 3 dX14_readOptions_25 rfl rfl ?_
          obtain ⟨hT, hF⟩ := h
          refine y_if_eq hC (pc := 26) 350 hy25_3 dX14_readOptions_26 (by decide) (fun c => ?_) (fun c => ?_)
          · have h := hT c
            exact y_retv hR dX14_readOptions_350 Ws25 (Nat.le_of_ble_eq_true rfl) (Nat.le_of_ble_eq_true rfl) ⟨(rKeep.tr rKeep.rf kJ rfl rfl rfl rfl rfl), h⟩
          · have h := hF c
            refine z_aload_n hC (pc := 29) 0 dX14_readOptions_29 rfl rfl ?_
            refine y_get hC (pc := 30) zf14 rOb_0 10 (v := iv (rF s25 0 10)) dX14_readOptions_30 zw2478 (rv_i (Or.inl rfl) rfl) (kk := ?_)
            have h := h (Ws25.f _ _)
            obtain ⟨hT, hF⟩ := h
            refine y_if_ne hC (pc := 33) 350 (Ws25.f _ _) dX14_readOptions_33 (by decide) (fun c => ?_) (fun c => ?_)
            · have h := hT c
              exact y_retv hR dX14_readOptions_350 Ws25 (Nat.le_of_ble_eq_true rfl) (Nat.le_of_ble_eq_true rfl) ⟨(rKeep.tr rKeep.rf kJ rfl rfl rfl rfl rfl), h⟩
            · have h := hF c
              refine z_aload_n hC (pc := 36) 0 dX14_readOptions_36 rfl rfl ?_
              refine z_dup hC (pc := 37) dX14_readOptions_37 rfl ?_
              refine y_get hC (pc := 38) zf14 rOb_0 29 (v := iv (rF s25 0 29)) dX14_readOptions_38 zw2496 (rv_i (Or.inl rfl) rfl) (kk := ?_)
              have h := h (Ws25.f _ _)
              refine z_iconst hC (pc := 41) (v := Int32.ofInt 1) dX14_readOptions_41 (by decide) ?_
              refine y_iadd hC (pc := 42) (v := ((rF s25 0 29) + 1)) dX14_readOptions_42 rfl ?_
              obtain ⟨r12, h⟩ := h
              refine y_putI hC (pc := 43) zf14 rOb_0 29 (x := ((rF s25 0 29) + 1)) dX14_readOptions_43 zw2496 (Or.inl rfl) rfl rfl (kk := ?_)
              have W13 := Ws25.sF (q := 0) (f := 29) (x := ((rF s25 0 29) + 1)) r12
              refine z_aload_n hC (pc := 46) 0 dX14_readOptions_46 rfl rfl ?_
              obtain ⟨p14, h⟩ := h
              refine y_callVv hC (pc := 47) (As := []) (kX14_blanks l G κ (sF s25 0 29 ((rF s25 0 29) + 1))  W13  p14) dmX14_blanks zf14 rOb_0 dX14_readOptions_47 zw3119 rfl rfl (Nat.le_of_ble_eq_true rfl) (Nat.le_of_ble_eq_true rfl) (by omega) (by omega) (Nat.le_of_ble_eq_true rfl) (kk := fun s47 Ws47 qs47 => ?_)
              have h := h s47 Ws47 (rNMp.keep qs47.1 rfl rfl rfl rfl rfl) (TPRp.keep qs47.1 rfl rfl rfl) (WNp.keep qs47.1 rfl rfl rfl rfl rfl) (PNp.keep qs47.1 rfl rfl rfl rfl rfl) (CCp.keep qs47.1 rfl rfl rfl rfl rfl rfl rfl) (qs47.1.R rfl) (qs47.1.F rfl) (qs47.1.F rfl) (qs47.1.F rfl) (qs47.1.F rfl) (qs47.1.F rfl) (qs47.1.F rfl) (qs47.1.F rfl) (qs47.1.F rfl) (qs47.1.F rfl) (qs47.1.F rfl) (fun i => qs47.1.A (f := 26) (by decide) rfl) (qs47.1.FG g0 rfl) (qs47.1.FG g0 rfl) (qs47.1.FG g0 rfl) (qs47.1.FG g0 rfl) (qs47.1.FG g0 rfl) (fz_keep qs47.1 rfl) (RG.keep (c0 := 0) qs47.1 rfl rfl rfl rfl rfl rfl rfl rfl rfl rfl rfl rfl rfl rfl rfl rfl rfl rfl) qs47.2
              refine z_aload_n hC (pc := 50) 0 dX14_readOptions_50 rfl rfl ?_
              refine z_ldcSw hC (pc := 51) dX14_readOptions_51 zS_52 ?_
              obtain ⟨p15, h⟩ := h
              refine y_callVi hC (pc := 54) (As := [.ref (G.2.2 105)]) (kX14_isWord_t l G κ s47 (G.2.2 105) 9 Ws47 (rSt_52 G) p15) dmX14_isWord zf14 rOb_0 dX14_readOptions_54 zw3128 rfl rfl (Nat.le_of_ble_eq_true rfl) (Nat.le_of_ble_eq_true rfl) (by omega) (by omega) (Nat.le_of_ble_eq_true rfl) (kk := fun v54 s54 hv54 Ws54 qs54 => ?_)
              obtain ⟨es54, qs54⟩ := qs54
              have es54 := es54.symm
              subst es54
              have h := h v54 hv54 qs54
              obtain ⟨hT, hF⟩ := h
              refine y_if_eq hC (pc := 57) 64 hv54 dX14_readOptions_57 (by decide) (fun c => ?_) (fun c => ?_)
              · have h := hT c
                refine z_aload_n hC (pc := 64) 0 dX14_readOptions_64 rfl rfl ?_
                refine z_ldcSw hC (pc := 65) dX14_readOptions_65 zS_53 ?_
                obtain ⟨p16, h⟩ := h
                refine y_callVi hC (pc := 68) (As := [.ref (G.2.2 107)]) (kX14_isWord_t l G κ s47 (G.2.2 107) 4 Ws47 (rSt_53 G) p16) dmX14_isWord zf14 rOb_0 dX14_readOptions_68 zw3128 rfl rfl (Nat.le_of_ble_eq_true rfl) (Nat.le_of_ble_eq_true rfl) (by omega) (by omega) (Nat.le_of_ble_eq_true rfl) (kk := fun v68 s68 hv68 Ws68 qs68 => ?_)
                obtain ⟨es68, qs68⟩ := qs68
                have es68 := es68.symm
                subst es68
                have h := h v68 hv68 qs68
                obtain ⟨hT, hF⟩ := h
                refine y_if_eq hC (pc := 71) 78 hv68 dX14_readOptions_71 (by decide) (fun c => ?_) (fun c => ?_)
                · have h := hT c
                  refine z_aload_n hC (pc := 78) 0 dX14_readOptions_78 rfl rfl ?_
                  refine z_ldcSw hC (pc := 79) dX14_readOptions_79 zS_54 ?_
                  obtain ⟨p17, h⟩ := h
                  refine y_callVi hC (pc := 82) (As := [.ref (G.2.2 109)]) (kX14_isWord_t l G κ s47 (G.2.2 109) 6 Ws47 (rSt_54 G) p17) dmX14_isWord zf14 rOb_0 dX14_readOptions_82 zw3128 rfl rfl (Nat.le_of_ble_eq_true rfl) (Nat.le_of_ble_eq_true rfl) (by omega) (by omega) (Nat.le_of_ble_eq_true rfl) (kk := fun v82 s82 hv82 Ws82 qs82 => ?_)
                  obtain ⟨es82, qs82⟩ := qs82
                  have es82 := es82.symm
                  subst es82
                  have h := h v82 hv82 qs82
                  obtain ⟨hT, hF⟩ := h
                  refine y_if_eq hC (pc := 85) 92 hv82 dX14_readOptions_85 (by decide) (fun c => ?_) (fun c => ?_)
                  · have h := hT c
                    refine z_aload_n hC (pc := 92) 0 dX14_readOptions_92 rfl rfl ?_
                    refine z_ldcSw hC (pc := 93) dX14_readOptions_93 zS_55 ?_
                    obtain ⟨p18, h⟩ := h
                    refine y_callVi hC (pc := 96) (As := [.ref (G.2.2 111)]) (kX14_isWord_t l G κ s47 (G.2.2 111) 4 Ws47 (rSt_55 G) p18) dmX14_isWord zf14 rOb_0 dX14_readOptions_96 zw3128 rfl rfl (Nat.le_of_ble_eq_true rfl) (Nat.le_of_ble_eq_true rfl) (by omega) (by omega) (Nat.le_of_ble_eq_true rfl) (kk := fun v96 s96 hv96 Ws96 qs96 => ?_)
                    obtain ⟨es96, qs96⟩ := qs96
                    have es96 := es96.symm
                    subst es96
                    have h := h v96 hv96 qs96
                    obtain ⟨hT, hF⟩ := h
                    refine y_if_eq hC (pc := 99) 106 hv96 dX14_readOptions_99 (by decide) (fun c => ?_) (fun c => ?_)
                    · have h := hT c
                      refine z_aload_n hC (pc := 106) 0 dX14_readOptions_106 rfl rfl ?_
                      refine z_ldcSw hC (pc := 107) dX14_readOptions_107 zS_56 ?_
                      obtain ⟨p19, h⟩ := h
                      refine y_callVi hC (pc := 110) (As := [.ref (G.2.2 113)]) (kX14_isWord_t l G κ s47 (G.2.2 113) 6 Ws47 (rSt_56 G) p19) dmX14_isWord zf14 rOb_0 dX14_readOptions_110 zw3128 rfl rfl (Nat.le_of_ble_eq_true rfl) (Nat.le_of_ble_eq_true rfl) (by omega) (by omega) (Nat.le_of_ble_eq_true rfl) (kk := fun v110 s110 hv110 Ws110 qs110 => ?_)
                      obtain ⟨es110, qs110⟩ := qs110
                      have es110 := es110.symm
                      subst es110
                      have h := h v110 hv110 qs110
                      obtain ⟨hT, hF⟩ := h
                      refine y_if_eq hC (pc := 113) 120 hv110 dX14_readOptions_113 (by decide) (fun c => ?_) (fun c => ?_)
                      · have h := hT c
                        refine z_iconst hC (pc := 120) (v := Int32.ofInt (-1)) dX14_readOptions_120 (by decide) ?_
                        refine z_istore hC (pc := 121) (lv' := [(4, iv (-1)), (0, .ref (κ 0)), (1, iv x1), (2, iv y25_2), (3, iv y25_3)]) dX14_readOptions_121 (by decide) rfl ?_
                        refine z_iload hC (pc := 123) 0 dX14_readOptions_123 rfl ?_
                        refine y_if_ge hC (pc := 125) 137 (r_lit rfl) dX14_readOptions_125 (by decide) (fun c => absurd c (by decide)) (fun _ => ?_)
                        refine z_aload_n hC (pc := 128) 1 dX14_readOptions_128 rfl rfl ?_
                        refine z_iconst hC (pc := 129) (v := Int32.ofInt 1) dX14_readOptions_129 (by decide) ?_
                        refine z_aload_n hC (pc := 130) 1 dX14_readOptions_130 rfl rfl ?_
                        obtain ⟨p20, h⟩ := h
                        refine y_callVi hC (pc := 131) (As := []) (kX14_place l G κ s47  Ws47  p20) dmX14_place zf14 rOb_0 dX14_readOptions_131 zw3103 rfl rfl (Nat.le_of_ble_eq_true rfl) (Nat.le_of_ble_eq_true rfl) (by omega) (by omega) (Nat.le_of_ble_eq_true rfl) (kk := fun v131 s131 hv131 Ws131 qs131 => ?_)
                        obtain ⟨es131, qs131⟩ := qs131
                        have es131 := es131.symm
                        subst es131
                        have h := h v131 hv131 qs131
                        obtain ⟨p21, h⟩ := h
                        refine y_callVv hC (pc := 134) (As := [iv 1, iv v131]) (kX14_bad l G κ s47 1 v131 Ws47 (r_lit rfl) hv131 p21) dmX14_bad zf14 rOb_0 dX14_readOptions_134 zw3000 rfl rfl (Nat.le_of_ble_eq_true rfl) (Nat.le_of_ble_eq_true rfl) (by omega) (by omega) (Nat.le_of_ble_eq_true rfl) (kk := fun s134 Ws134 qs134 => ?_)
                        have h := h s134 Ws134 (rNMp.keep qs134.1 rfl rfl rfl rfl rfl) (TPRp.keep qs134.1 rfl rfl rfl) (WNp.keep qs134.1 rfl rfl rfl rfl rfl) (PNp.keep qs134.1 rfl rfl rfl rfl rfl) (CCp.keep qs134.1 rfl rfl rfl rfl rfl rfl rfl) (qs134.1.R rfl) (qs134.1.F rfl) (qs134.1.F rfl) (qs134.1.F rfl) (qs134.1.F rfl) (qs134.1.F rfl) (qs134.1.F rfl) (qs134.1.F rfl) (qs134.1.F rfl) (qs134.1.F rfl) (qs134.1.F rfl) (fun i => qs134.1.A (f := 26) (by decide) rfl) (qs134.1.FG g0 rfl) (qs134.1.FG g0 rfl) (qs134.1.FG g0 rfl) (qs134.1.FG g0 rfl) (qs134.1.FG g0 rfl) (RG.keep (c0 := 0) qs134.1 rfl rfl rfl rfl rfl rfl rfl rfl rfl rfl rfl rfl rfl rfl rfl rfl rfl rfl) qs134.2
                        refine z_aload_n hC (pc := 137) 1 dX14_readOptions_137 rfl rfl ?_
                        refine y_get hC (pc := 138) zf14 rOb_0 7 (v := .ref (κ (rR σ 7))) dX14_readOptions_138 zw2475 (rv_g rfl ((qs134.1.R rfl).trans ((qs47.1.R rfl).trans (kJ.R rfl))) g0) (kk := ?_)
                        refine y_getN hC (pc := 141) zf13 (rOb_k g0) 2 (v := .ref (κ (1000 * ((rR σ 7) + 1) + 2))) dX14_readOptions_141 zw2314 (rv_c rfl) (kk := ?_)
                        refine z_iload_n hC (pc := 144) 2 dX14_readOptions_144 rfl rfl ?_
                        obtain ⟨b22, h⟩ := h
                        refine y_iald hC (pc := 145) (rAr_k g0 rfl rfl) dX14_readOptions_145 b22 (v := (rA s134 (1000 * ((rR σ 7) + 1) + 2) x1)) rfl (kk := ?_)
                        have h := h (Ws134.a _ _)
                        refine z_istore hC (pc := 146) (lv' := [(5, iv (rA s134 (1000 * ((rR σ 7) + 1) + 2) x1)), (4, iv (-1)), (0, .ref (κ 0)), (1, iv x1), (2, iv y25_2), (3, iv y25_3)]) dX14_readOptions_146 (by decide) rfl ?_
                        have j148 : ∀ (d148 : Nat), ∀ (s148 : rS) (y148_2 : Int) (y148_4 : Int) (y148_5 : Int), rWF s148 → rng y148_2 → rng y148_4 → rng y148_5 → rKeep 0x6c0a3001c00 0x4100001280 0x13c00000000 0x3ee0000d7f 0 σ s148 → inv_X14_readOptions_148 σ x1 gg g (mu_X14_readOptions_25 σ x1 gg g s25 y25_2 y25_3) s148 y148_2 y148_4 y148_5 → (mu_X14_readOptions_148 σ x1 gg g s148 y148_2 y148_4 y148_5) ≤ d148 → zS X G 6 (rW G κ s148) [(0, .ref (κ 0)), (1, iv x1), (2, iv y148_2), (4, iv y148_4), (5, iv y148_5)] 0 0 148 [] := by
                          intro d148
                          induction d148 with
                          | zero =>
                            intro s148 y148_2 y148_4 y148_5 Ws148 hy148_2 hy148_4 hy148_5 kJ hI hmu
                            exact absurd hmu (by have := h_148m (mu_X14_readOptions_25 σ x1 gg g s25 y25_2 y25_3) s148 y148_2 y148_4 y148_5 Ws148 hy148_2 hy148_4 hy148_5 (TPRp.keep kJ rfl rfl rfl) (CCp.keep kJ rfl rfl rfl rfl rfl rfl rfl) (kJ.R rfl) (kJ.F rfl) (kJ.F rfl) (kJ.F rfl) (kJ.F rfl) (kJ.F rfl) (kJ.F rfl) (fun i => kJ.A (f := 26) (by decide) rfl) hI; omega)
                          | succ d148 ih148 =>
                            intro s148 y148_2 y148_4 y148_5 Ws148 hy148_2 hy148_4 hy148_5 kJ hI hmu148
                            have h := h_148 (mu_X14_readOptions_25 σ x1 gg g s25 y25_2 y25_3) s148 y148_2 y148_4 y148_5 Ws148 hy148_2 hy148_4 hy148_5 (TPRp.keep kJ rfl rfl rfl) (CCp.keep kJ rfl rfl rfl rfl rfl rfl rfl) (kJ.R rfl) (kJ.F rfl) (kJ.F rfl) (kJ.F rfl) (kJ.F rfl) (kJ.F rfl) (kJ.F rfl) (fun i => kJ.A (f := 26) (by decide) rfl) hI
                            refine z_iload hC (pc := 148) 4 dX14_readOptions_148 rfl ?_
                            have j199 : ∀ (s199 : rS) (y199_2 : Int) (y199_4 : Int), rWF s199 → rng y199_2 → rng y199_4 → rKeep 0x6c0a3001c00 0x4100001280 0x13c00000000 0x3ee0000d7f 0 σ s199 → inv_X14_readOptions_199 σ x1 gg g (mu_X14_readOptions_25 σ x1 gg g s25 y25_2 y25_3) s199 y199_2 y199_4 → zS X G 6 (rW G κ s199) [(0, .ref (κ 0)), (1, iv x1), (2, iv y199_2), (4, iv y199_4)] 0 0 199 [] := by
                              intro s199 y199_2 y199_4 Ws199 hy199_2 hy199_4 kJ hI
                              have h := h_199 (mu_X14_readOptions_25 σ x1 gg g s25 y25_2 y25_3) s199 y199_2 y199_4 Ws199 hy199_2 hy199_4 (TPRp.keep kJ rfl rfl rfl) (CCp.keep kJ rfl rfl rfl rfl rfl rfl rfl) (kJ.R rfl) (kJ.F rfl) (kJ.F rfl) (kJ.F rfl) (kJ.F rfl) (kJ.F rfl) (kJ.F rfl) (fun i => kJ.A (f := 26) (by decide) rfl) hI
                              refine z_aload_n hC (pc := 199) 0 dX14_readOptions_199 rfl rfl ?_
                              refine y_get hC (pc := 200) zf14 rOb_0 10 (v := iv (rF s199 0 10)) dX14_readOptions_200 zw2478 (rv_i (Or.inl rfl) rfl) (kk := ?_)
                              have h := h (Ws199.f _ _)
                              obtain ⟨hT, hF⟩ := h
                              refine y_if_eq hC (pc := 203) 207 (Ws199.f _ _) dX14_readOptions_203 (by decide) (fun c => ?_) (fun c => ?_)
                              · have h := hT c
                                refine z_aload_n hC (pc := 207) 0 dX14_readOptions_207 rfl rfl ?_
                                refine z_bipush hC (pc := 208) (v := Int32.ofInt 53) dX14_readOptions_208 (by decide) ?_
                                refine z_iload hC (pc := 210) 3 dX14_readOptions_210 rfl ?_
                                refine z_iconst hC (pc := 212) (v := Int32.ofInt 0) dX14_readOptions_212 (by decide) ?_
                                refine z_aload_n hC (pc := 213) 0 dX14_readOptions_213 rfl rfl ?_
                                obtain ⟨p23, h⟩ := h
                                refine y_callVi hC (pc := 214) (As := []) (kX14_place l G κ s199  Ws199  p23) dmX14_place zf14 rOb_0 dX14_readOptions_214 zw3103 rfl rfl (Nat.le_of_ble_eq_true rfl) (Nat.le_of_ble_eq_true rfl) (by omega) (by omega) (Nat.le_of_ble_eq_true rfl) (kk := fun v214 s214 hv214 Ws214 qs214 => ?_)
                                obtain ⟨es214, qs214⟩ := qs214
                                have es214 := es214.symm
                                subst es214
                                have h := h v214 hv214 qs214
                                obtain ⟨p24, h⟩ := h
                                refine y_callVi hC (pc := 217) (As := [iv 53, iv y199_4, iv 0, iv v214]) (kX14_node_t l G κ s199 53 y199_4 0 v214 gg Ws199 (r_lit rfl) hy199_4 (r_lit rfl) hv214 p24) dmX14_node zf14 rOb_0 dX14_readOptions_217 zw3170 rfl rfl (Nat.le_of_ble_eq_true rfl) (Nat.le_of_ble_eq_true rfl) (by omega) (by omega) (Nat.le_of_ble_eq_true rfl) (kk := fun v217 s217 hv217 Ws217 qs217 => ?_)
                                have h := h v217 s217 hv217 Ws217 (rNMp.keep qs217.1 rfl rfl rfl rfl rfl) (TPRp.keep qs217.1 rfl rfl rfl) (WNp.keep qs217.1 rfl rfl rfl rfl rfl) (CCp.keep qs217.1 rfl rfl rfl rfl rfl rfl rfl) (qs217.1.R rfl) (qs217.1.F rfl) (qs217.1.F rfl) (qs217.1.F rfl) (qs217.1.F rfl) (qs217.1.F rfl) (qs217.1.F rfl) (qs217.1.F rfl) (qs217.1.F rfl) (qs217.1.F rfl) (qs217.1.F rfl) (qs217.1.F rfl) (fun i => qs217.1.A (f := 26) (by decide) rfl) (qs217.1.FG g0 rfl) (qs217.1.FG g0 rfl) (qs217.1.FG g0 rfl) (qs217.1.FG g0 rfl) (fz_keep qs217.1 rfl) qs217.2
                                refine z_istore hC (pc := 220) (lv' := [(5, iv v217), (0, .ref (κ 0)), (1, iv x1), (2, iv y199_2), (4, iv y199_4)]) dX14_readOptions_220 (by decide) rfl ?_
                                refine z_aload_n hC (pc := 222) 1 dX14_readOptions_222 rfl rfl ?_
                                refine z_aload_n hC (pc := 223) 1 dX14_readOptions_223 rfl rfl ?_
                                refine y_get hC (pc := 224) zf14 rOb_0 26 (v := .ref (κ 1026)) dX14_readOptions_224 zw2493 (rv_c rfl) (kk := ?_)
                                refine z_aload_n hC (pc := 227) 1 dX14_readOptions_227 rfl rfl ?_
                                refine y_get hC (pc := 228) zf14 rOb_0 28 (v := iv (rF s217 0 28)) dX14_readOptions_228 zw2495 (rv_i (Or.inl rfl) rfl) (kk := ?_)
                                have h := h (Ws217.f _ _)
                                refine z_aload_n hC (pc := 231) 1 dX14_readOptions_231 rfl rfl ?_
                                refine y_get hC (pc := 232) zf14 rOb_0 29 (v := iv (rF s199 0 29)) dX14_readOptions_232 zw2496 (rv_i (Or.inl rfl) ((qs217.1.F rfl).trans rfl)) (kk := ?_)
                                have h := h (Ws199.f _ _)
                                obtain ⟨p25, h⟩ := h
                                refine y_callSi hC (pc := 235) (As := [.ref (κ 1026), iv (rF s217 0 28), iv (rF s199 0 29)]) (kX14_wordEnd_t l G κ s217 1026 4001 (rF s217 0 28) (rF s199 0 29) Ws217 (rAr_m rfl) (Ws217.f _ _) (Ws199.f _ _) p25) dmX14_wordEnd dX14_readOptions_235 zw3009 rfl rfl (Nat.le_of_ble_eq_true rfl) (Nat.le_of_ble_eq_true rfl) (by omega) (by omega) (Nat.le_of_ble_eq_true rfl) (kk := fun v235 s235 hv235 Ws235 qs235 => ?_)
                                obtain ⟨es235, qs235⟩ := qs235
                                have es235 := es235.symm
                                subst es235
                                have h := h v235 hv235 qs235
                                refine y_putI hC (pc := 238) zf14 rOb_0 29 (x := v235) dX14_readOptions_238 zw2496 (Or.inl rfl) rfl rfl (kk := ?_)
                                have W26 := Ws217.sF (q := 0) (f := 29) (x := v235) hv235
                                refine z_aload_n hC (pc := 241) 1 dX14_readOptions_241 rfl rfl ?_
                                obtain ⟨p27, h⟩ := h
                                refine y_callVv hC (pc := 242) (As := []) (kX14_blanks l G κ (sF s217 0 29 v235)  W26  p27) dmX14_blanks zf14 rOb_0 dX14_readOptions_242 zw3119 rfl rfl (Nat.le_of_ble_eq_true rfl) (Nat.le_of_ble_eq_true rfl) (by omega) (by omega) (Nat.le_of_ble_eq_true rfl) (kk := fun s242 Ws242 qs242 => ?_)
                                have h := h s242 Ws242 (rNMp.keep qs242.1 rfl rfl rfl rfl rfl) (TPRp.keep qs242.1 rfl rfl rfl) (WNp.keep qs242.1 rfl rfl rfl rfl rfl) (PNp.keep qs242.1 rfl rfl rfl rfl rfl) (CCp.keep qs242.1 rfl rfl rfl rfl rfl rfl rfl) (qs242.1.R rfl) (qs242.1.F rfl) (qs242.1.F rfl) (qs242.1.F rfl) (qs242.1.F rfl) (qs242.1.F rfl) (qs242.1.F rfl) (qs242.1.F rfl) (qs242.1.F rfl) (qs242.1.F rfl) (qs242.1.F rfl) (fun i => qs242.1.A (f := 26) (by decide) rfl) (qs242.1.FG g0 rfl) (qs242.1.FG g0 rfl) (qs242.1.FG g0 rfl) (qs242.1.FG g0 rfl) (qs242.1.FG g0 rfl) (fz_keep qs242.1 rfl) (RG.keep (c0 := 0) qs242.1 rfl rfl rfl rfl rfl rfl rfl rfl rfl rfl rfl rfl rfl rfl rfl rfl rfl rfl) qs242.2
                                refine z_aload_n hC (pc := 245) 1 dX14_readOptions_245 rfl rfl ?_
                                obtain ⟨p28, h⟩ := h
                                refine y_callVi hC (pc := 246) (As := []) (kX14_here l G κ s242  Ws242  p28) dmX14_here zf14 rOb_0 dX14_readOptions_246 zw3099 rfl rfl (Nat.le_of_ble_eq_true rfl) (Nat.le_of_ble_eq_true rfl) (by omega) (by omega) (Nat.le_of_ble_eq_true rfl) (kk := fun v246 s246 hv246 Ws246 qs246 => ?_)
                                obtain ⟨es246, qs246⟩ := qs246
                                have es246 := es246.symm
                                subst es246
                                have h := h v246 hv246 qs246
                                refine z_bipush hC (pc := 249) (v := Int32.ofInt 61) dX14_readOptions_249 (by decide) ?_
                                obtain ⟨hT, hF⟩ := h
                                refine y_icmp_ne hC (pc := 251) 281 hv246 (r_lit rfl) dX14_readOptions_251 (by decide) (fun c => ?_) (fun c => ?_)
                                · have h := hT c
                                  refine z_iload hC (pc := 281) 4 dX14_readOptions_281 rfl ?_
                                  refine z_iconst hC (pc := 283) (v := Int32.ofInt 3) dX14_readOptions_283 (by decide) ?_
                                  obtain ⟨hT, hF⟩ := h
                                  refine y_icmp_ge hC (pc := 284) 296 hy199_4 (r_lit rfl) dX14_readOptions_284 (by decide) (fun c => ?_) (fun c => ?_)
                                  · have h := hT c
                                    refine z_iload_n hC (pc := 296) 3 dX14_readOptions_296 rfl rfl ?_
                                    have j325 : ∀ (s325 : rS) (y325_5 : Int), rWF s325 → rng y325_5 → rKeep 0x6c0a3001c00 0x4100001280 0x13c00000000 0x3ee0000d7f 0 σ s325 → inv_X14_readOptions_325 σ x1 gg g (mu_X14_readOptions_25 σ x1 gg g s25 y25_2 y25_3) s325 y325_5 → zS X G 6 (rW G κ s325) [(0, .ref (κ 0)), (1, iv x1), (5, iv y325_5)] 0 0 325 [] := by
                                      intro s325 y325_5 Ws325 hy325_5 kJ hI
                                      have h := h_325 (mu_X14_readOptions_25 σ x1 gg g s25 y25_2 y25_3) s325 y325_5 Ws325 hy325_5 (TPRp.keep kJ rfl rfl rfl) (CCp.keep kJ rfl rfl rfl rfl rfl rfl rfl) (kJ.R rfl) (kJ.F rfl) (kJ.F rfl) (kJ.F rfl) (kJ.F rfl) (kJ.F rfl) (kJ.F rfl) (fun i => kJ.A (f := 26) (by decide) rfl) hI
                                      refine z_iload hC (pc := 325) 2 dX14_readOptions_325 rfl ?_
                                      refine z_istore_n hC (pc := 327) (lv' := [(2, iv y325_5), (0, .ref (κ 0)), (1, iv x1), (5, iv y325_5)]) dX14_readOptions_327 rfl (by decide) rfl ?_
                                      refine z_aload_n hC (pc := 328) 1 dX14_readOptions_328 rfl rfl ?_
                                      obtain ⟨p29, h⟩ := h
                                      refine y_callVv hC (pc := 329) (As := []) (kX14_blanks l G κ s325  Ws325  p29) dmX14_blanks zf14 rOb_0 dX14_readOptions_329 zw3119 rfl rfl (Nat.le_of_ble_eq_true rfl) (Nat.le_of_ble_eq_true rfl) (by omega) (by omega) (Nat.le_of_ble_eq_true rfl) (kk := fun s329 Ws329 qs329 => ?_)
                                      have h := h s329 Ws329 (rNMp.keep qs329.1 rfl rfl rfl rfl rfl) (TPRp.keep qs329.1 rfl rfl rfl) (WNp.keep qs329.1 rfl rfl rfl rfl rfl) (PNp.keep qs329.1 rfl rfl rfl rfl rfl) (CCp.keep qs329.1 rfl rfl rfl rfl rfl rfl rfl) (qs329.1.R rfl) (qs329.1.F rfl) (qs329.1.F rfl) (qs329.1.F rfl) (qs329.1.F rfl) (qs329.1.F rfl) (qs329.1.F rfl) (qs329.1.F rfl) (qs329.1.F rfl) (qs329.1.F rfl) (qs329.1.F rfl) (fun i => qs329.1.A (f := 26) (by decide) rfl) (qs329.1.FG g0 rfl) (qs329.1.FG g0 rfl) (qs329.1.FG g0 rfl) (qs329.1.FG g0 rfl) (qs329.1.FG g0 rfl) (fz_keep qs329.1 rfl) (RG.keep (c0 := 0) qs329.1 rfl rfl rfl rfl rfl rfl rfl rfl rfl rfl rfl rfl rfl rfl rfl rfl rfl rfl) qs329.2
                                      refine z_aload_n hC (pc := 332) 1 dX14_readOptions_332 rfl rfl ?_
                                      obtain ⟨p30, h⟩ := h
                                      refine y_callVi hC (pc := 333) (As := []) (kX14_here l G κ s329  Ws329  p30) dmX14_here zf14 rOb_0 dX14_readOptions_333 zw3099 rfl rfl (Nat.le_of_ble_eq_true rfl) (Nat.le_of_ble_eq_true rfl) (by omega) (by omega) (Nat.le_of_ble_eq_true rfl) (kk := fun v333 s333 hv333 Ws333 qs333 => ?_)
                                      obtain ⟨es333, qs333⟩ := qs333
                                      have es333 := es333.symm
                                      subst es333
                                      have h := h v333 hv333 qs333
                                      refine z_bipush hC (pc := 336) (v := Int32.ofInt 44) dX14_readOptions_336 (by decide) ?_
                                      obtain ⟨hT, hF⟩ := h
                                      refine y_icmp_ne hC (pc := 338) 345 hv333 (r_lit rfl) dX14_readOptions_338 (by decide) (fun c => ?_) (fun c => ?_)
                                      · have h := hT c
                                        refine z_iconst hC (pc := 345) (v := Int32.ofInt 0) dX14_readOptions_345 (by decide) ?_
                                        refine z_istore_n hC (pc := 346) (lv' := [(3, iv 0), (2, iv y325_5), (0, .ref (κ 0)), (1, iv x1), (5, iv y325_5)]) dX14_readOptions_346 rfl (by decide) rfl ?_
                                        refine z_goto hC (pc := 347) 25 dX14_readOptions_347 (by decide) ?_
                                        refine z_lvs [2, 3, 1, 0] rfl ?_
                                        obtain ⟨hI, hm⟩ := h
                                        exact ih25 s329 y325_5 0 Ws329 hy325_5 (r_lit rfl) (rKeep.tr (rKeep.tr rKeep.rf kJ rfl rfl rfl rfl rfl) qs329.1 rfl rfl rfl rfl rfl) hI (by omega)
                                      · have h := hF c
                                        refine z_iconst hC (pc := 341) (v := Int32.ofInt 1) dX14_readOptions_341 (by decide) ?_
                                        refine z_goto hC (pc := 342) 346 dX14_readOptions_342 (by decide) ?_
                                        refine z_istore_n hC (pc := 346) (lv' := [(3, iv 1), (2, iv y325_5), (0, .ref (κ 0)), (1, iv x1), (5, iv y325_5)]) dX14_readOptions_346 rfl (by decide) rfl ?_
                                        refine z_goto hC (pc := 347) 25 dX14_readOptions_347 (by decide) ?_
                                        refine z_lvs [2, 3, 1, 0] rfl ?_
                                        obtain ⟨hI, hm⟩ := h
                                        exact ih25 s329 y325_5 1 Ws329 hy325_5 (r_lit rfl) (rKeep.tr (rKeep.tr rKeep.rf kJ rfl rfl rfl rfl rfl) qs329.1 rfl rfl rfl rfl rfl) hI (by omega)
                                    obtain ⟨hT, hF⟩ := h
                                    refine y_if_ne hC (pc := 297) 314 hy199_2 dX14_readOptions_297 (by decide) (fun c => ?_) (fun c => ?_)
                                    · have h := hT c
                                      refine z_aload_n hC (pc := 314) 1 dX14_readOptions_314 rfl rfl ?_
                                      refine y_get hC (pc := 315) zf14 rOb_0 7 (v := .ref (κ (rR σ 7))) dX14_readOptions_315 zw2475 (rv_g rfl ((qs242.1.R rfl).trans ((qs217.1.R rfl).trans (kJ.R rfl))) g0) (kk := ?_)
                                      refine y_getN hC (pc := 318) zf13 (rOb_k g0) 5 (v := .ref (κ (1000 * ((rR σ 7) + 1) + 5))) dX14_readOptions_318 zw2320 (rv_c rfl) (kk := ?_)
                                      refine z_iload_n hC (pc := 321) 3 dX14_readOptions_321 rfl rfl ?_
                                      refine z_iload hC (pc := 322) 0 dX14_readOptions_322 rfl ?_
                                      obtain ⟨b31, h⟩ := h
                                      refine y_iast hC (pc := 324) (rAr_k g0 rfl rfl) dX14_readOptions_324 b31 (v := v217) (kk := ?_)
                                      have W32 := Ws242.sA (p := (1000 * ((rR σ 7) + 1) + 5)) (i := y199_2) (x := v217) hv217
                                      refine z_lvs [1, 2, 0] rfl ?_
                                      exact j325 (sT s242 (rR σ 7) 5 y199_2 v217) v217 W32 hv217 (rKeep.tr (rKeep.tr (rKeep.tr (rKeep.tr (rKeep.tr rKeep.rf kJ rfl rfl rfl rfl rfl) qs217.1 rfl rfl rfl rfl rfl) (rKeep.sF0 (f := 29)) rfl rfl rfl rfl rfl) qs242.1 rfl rfl rfl rfl rfl) (rKeep.sAk (f := 5) g0 (by decide)) rfl rfl rfl rfl rfl) h
                                    · have h := hF c
                                      refine z_aload_n hC (pc := 300) 1 dX14_readOptions_300 rfl rfl ?_
                                      refine y_get hC (pc := 301) zf14 rOb_0 7 (v := .ref (κ (rR σ 7))) dX14_readOptions_301 zw2475 (rv_g rfl ((qs242.1.R rfl).trans ((qs217.1.R rfl).trans (kJ.R rfl))) g0) (kk := ?_)
                                      refine y_getN hC (pc := 304) zf13 (rOb_k g0) 2 (v := .ref (κ (1000 * ((rR σ 7) + 1) + 2))) dX14_readOptions_304 zw2314 (rv_c rfl) (kk := ?_)
                                      refine z_iload_n hC (pc := 307) 2 dX14_readOptions_307 rfl rfl ?_
                                      refine z_iload hC (pc := 308) 0 dX14_readOptions_308 rfl ?_
                                      obtain ⟨b33, h⟩ := h
                                      refine y_iast hC (pc := 310) (rAr_k g0 rfl rfl) dX14_readOptions_310 b33 (v := v217) (kk := ?_)
                                      have W34 := Ws242.sA (p := (1000 * ((rR σ 7) + 1) + 2)) (i := x1) (x := v217) hv217
                                      refine z_goto hC (pc := 311) 325 dX14_readOptions_311 (by decide) ?_
                                      refine z_lvs [1, 2, 0] rfl ?_
                                      exact j325 (sT s242 (rR σ 7) 2 x1 v217) v217 W34 hv217 (rKeep.tr (rKeep.tr (rKeep.tr (rKeep.tr (rKeep.tr rKeep.rf kJ rfl rfl rfl rfl rfl) qs217.1 rfl rfl rfl rfl rfl) (rKeep.sF0 (f := 29)) rfl rfl rfl rfl rfl) qs242.1 rfl rfl rfl rfl rfl) (rKeep.sAk (f := 2) g0 (by decide)) rfl rfl rfl rfl rfl) h
                                  · have h := hF c
                                    refine z_aload_n hC (pc := 287) 1 dX14_readOptions_287 rfl rfl ?_
                                    refine z_iconst hC (pc := 288) (v := Int32.ofInt 1) dX14_readOptions_288 (by decide) ?_
                                    refine z_aload_n hC (pc := 289) 1 dX14_readOptions_289 rfl rfl ?_
                                    obtain ⟨p35, h⟩ := h
                                    refine y_callVi hC (pc := 290) (As := []) (kX14_place l G κ s242  Ws242  p35) dmX14_place zf14 rOb_0 dX14_readOptions_290 zw3103 rfl rfl (Nat.le_of_ble_eq_true rfl) (Nat.le_of_ble_eq_true rfl) (by omega) (by omega) (Nat.le_of_ble_eq_true rfl) (kk := fun v290 s290 hv290 Ws290 qs290 => ?_)
                                    obtain ⟨es290, qs290⟩ := qs290
                                    have es290 := es290.symm
                                    subst es290
                                    have h := h v290 hv290 qs290
                                    obtain ⟨p36, h⟩ := h
                                    refine y_callVv hC (pc := 293) (As := [iv 1, iv v290]) (kX14_bad l G κ s242 1 v290 Ws242 (r_lit rfl) hv290 p36) dmX14_bad zf14 rOb_0 dX14_readOptions_293 zw3000 rfl rfl (Nat.le_of_ble_eq_true rfl) (Nat.le_of_ble_eq_true rfl) (by omega) (by omega) (Nat.le_of_ble_eq_true rfl) (kk := fun s293 Ws293 qs293 => ?_)
                                    have h := h s293 Ws293 (rNMp.keep qs293.1 rfl rfl rfl rfl rfl) (TPRp.keep qs293.1 rfl rfl rfl) (WNp.keep qs293.1 rfl rfl rfl rfl rfl) (PNp.keep qs293.1 rfl rfl rfl rfl rfl) (CCp.keep qs293.1 rfl rfl rfl rfl rfl rfl rfl) (qs293.1.R rfl) (qs293.1.F rfl) (qs293.1.F rfl) (qs293.1.F rfl) (qs293.1.F rfl) (qs293.1.F rfl) (qs293.1.F rfl) (qs293.1.F rfl) (qs293.1.F rfl) (qs293.1.F rfl) (qs293.1.F rfl) (fun i => qs293.1.A (f := 26) (by decide) rfl) (qs293.1.FG g0 rfl) (qs293.1.FG g0 rfl) (qs293.1.FG g0 rfl) (qs293.1.FG g0 rfl) (qs293.1.FG g0 rfl) (RG.keep (c0 := 0) qs293.1 rfl rfl rfl rfl rfl rfl rfl rfl rfl rfl rfl rfl rfl rfl rfl rfl rfl rfl) qs293.2
                                    refine z_iload_n hC (pc := 296) 3 dX14_readOptions_296 rfl rfl ?_
                                    have j325 : ∀ (s325 : rS) (y325_5 : Int), rWF s325 → rng y325_5 → rKeep 0x6c0a3001c00 0x4100001280 0x13c00000000 0x3ee0000d7f 0 σ s325 → inv_X14_readOptions_325 σ x1 gg g (mu_X14_readOptions_25 σ x1 gg g s25 y25_2 y25_3) s325 y325_5 → zS X G 6 (rW G κ s325) [(0, .ref (κ 0)), (1, iv x1), (5, iv y325_5)] 0 0 325 [] := by
                                      intro s325 y325_5 Ws325 hy325_5 kJ hI
                                      have h := h_325 (mu_X14_readOptions_25 σ x1 gg g s25 y25_2 y25_3) s325 y325_5 Ws325 hy325_5 (TPRp.keep kJ rfl rfl rfl) (CCp.keep kJ rfl rfl rfl rfl rfl rfl rfl) (kJ.R rfl) (kJ.F rfl) (kJ.F rfl) (kJ.F rfl) (kJ.F rfl) (kJ.F rfl) (kJ.F rfl) (fun i => kJ.A (f := 26) (by decide) rfl) hI
                                      refine z_iload hC (pc := 325) 2 dX14_readOptions_325 rfl ?_
                                      refine z_istore_n hC (pc := 327) (lv' := [(2, iv y325_5), (0, .ref (κ 0)), (1, iv x1), (5, iv y325_5)]) dX14_readOptions_327 rfl (by decide) rfl ?_
                                      refine z_aload_n hC (pc := 328) 1 dX14_readOptions_328 rfl rfl ?_
                                      obtain ⟨p37, h⟩ := h
                                      refine y_callVv hC (pc := 329) (As := []) (kX14_blanks l G κ s325  Ws325  p37) dmX14_blanks zf14 rOb_0 dX14_readOptions_329 zw3119 rfl rfl (Nat.le_of_ble_eq_true rfl) (Nat.le_of_ble_eq_true rfl) (by omega) (by omega) (Nat.le_of_ble_eq_true rfl) (kk := fun s329 Ws329 qs329 => ?_)
                                      have h := h s329 Ws329 (rNMp.keep qs329.1 rfl rfl rfl rfl rfl) (TPRp.keep qs329.1 rfl rfl rfl) (WNp.keep qs329.1 rfl rfl rfl rfl rfl) (PNp.keep qs329.1 rfl rfl rfl rfl rfl) (CCp.keep qs329.1 rfl rfl rfl rfl rfl rfl rfl) (qs329.1.R rfl) (qs329.1.F rfl) (qs329.1.F rfl) (qs329.1.F rfl) (qs329.1.F rfl) (qs329.1.F rfl) (qs329.1.F rfl) (qs329.1.F rfl) (qs329.1.F rfl) (qs329.1.F rfl) (qs329.1.F rfl) (fun i => qs329.1.A (f := 26) (by decide) rfl) (qs329.1.FG g0 rfl) (qs329.1.FG g0 rfl) (qs329.1.FG g0 rfl) (qs329.1.FG g0 rfl) (qs329.1.FG g0 rfl) (fz_keep qs329.1 rfl) (RG.keep (c0 := 0) qs329.1 rfl rfl rfl rfl rfl rfl rfl rfl rfl rfl rfl rfl rfl rfl rfl rfl rfl rfl) qs329.2
                                      refine z_aload_n hC (pc := 332) 1 dX14_readOptions_332 rfl rfl ?_
                                      obtain ⟨p38, h⟩ := h
                                      refine y_callVi hC (pc := 333) (As := []) (kX14_here l G κ s329  Ws329  p38) dmX14_here zf14 rOb_0 dX14_readOptions_333 zw3099 rfl rfl (Nat.le_of_ble_eq_true rfl) (Nat.le_of_ble_eq_true rfl) (by omega) (by omega) (Nat.le_of_ble_eq_true rfl) (kk := fun v333 s333 hv333 Ws333 qs333 => ?_)
                                      obtain ⟨es333, qs333⟩ := qs333
                                      have es333 := es333.symm
                                      subst es333
                                      have h := h v333 hv333 qs333
                                      refine z_bipush hC (pc := 336) (v := Int32.ofInt 44) dX14_readOptions_336 (by decide) ?_
                                      obtain ⟨hT, hF⟩ := h
                                      refine y_icmp_ne hC (pc := 338) 345 hv333 (r_lit rfl) dX14_readOptions_338 (by decide) (fun c => ?_) (fun c => ?_)
                                      · have h := hT c
                                        refine z_iconst hC (pc := 345) (v := Int32.ofInt 0) dX14_readOptions_345 (by decide) ?_
                                        refine z_istore_n hC (pc := 346) (lv' := [(3, iv 0), (2, iv y325_5), (0, .ref (κ 0)), (1, iv x1), (5, iv y325_5)]) dX14_readOptions_346 rfl (by decide) rfl ?_
                                        refine z_goto hC (pc := 347) 25 dX14_readOptions_347 (by decide) ?_
                                        refine z_lvs [2, 3, 1, 0] rfl ?_
                                        obtain ⟨hI, hm⟩ := h
                                        exact ih25 s329 y325_5 0 Ws329 hy325_5 (r_lit rfl) (rKeep.tr (rKeep.tr rKeep.rf kJ rfl rfl rfl rfl rfl) qs329.1 rfl rfl rfl rfl rfl) hI (by omega)
                                      · have h := hF c
                                        refine z_iconst hC (pc := 341) (v := Int32.ofInt 1) dX14_readOptions_341 (by decide) ?_
                                        refine z_goto hC (pc := 342) 346 dX14_readOptions_342 (by decide) ?_
                                        refine z_istore_n hC (pc := 346) (lv' := [(3, iv 1), (2, iv y325_5), (0, .ref (κ 0)), (1, iv x1), (5, iv y325_5)]) dX14_readOptions_346 rfl (by decide) rfl ?_
                                        refine z_goto hC (pc := 347) 25 dX14_readOptions_347 (by decide) ?_
                                        refine z_lvs [2, 3, 1, 0] rfl ?_
                                        obtain ⟨hI, hm⟩ := h
                                        exact ih25 s329 y325_5 1 Ws329 hy325_5 (r_lit rfl) (rKeep.tr (rKeep.tr rKeep.rf kJ rfl rfl rfl rfl rfl) qs329.1 rfl rfl rfl rfl rfl) hI (by omega)
                                    obtain ⟨hT, hF⟩ := h
                                    refine y_if_ne hC (pc := 297) 314 hy199_2 dX14_readOptions_297 (by decide) (fun c => ?_) (fun c => ?_)
                                    · have h := hT c
                                      refine z_aload_n hC (pc := 314) 1 dX14_readOptions_314 rfl rfl ?_
                                      refine y_get hC (pc := 315) zf14 rOb_0 7 (v := .ref (κ (rR σ 7))) dX14_readOptions_315 zw2475 (rv_g rfl ((qs293.1.R rfl).trans ((qs242.1.R rfl).trans ((qs217.1.R rfl).trans (kJ.R rfl)))) g0) (kk := ?_)
                                      refine y_getN hC (pc := 318) zf13 (rOb_k g0) 5 (v := .ref (κ (1000 * ((rR σ 7) + 1) + 5))) dX14_readOptions_318 zw2320 (rv_c rfl) (kk := ?_)
                                      refine z_iload_n hC (pc := 321) 3 dX14_readOptions_321 rfl rfl ?_
                                      refine z_iload hC (pc := 322) 0 dX14_readOptions_322 rfl ?_
                                      obtain ⟨b39, h⟩ := h
                                      refine y_iast hC (pc := 324) (rAr_k g0 rfl rfl) dX14_readOptions_324 b39 (v := v217) (kk := ?_)
                                      have W40 := Ws293.sA (p := (1000 * ((rR σ 7) + 1) + 5)) (i := y199_2) (x := v217) hv217
                                      refine z_lvs [1, 2, 0] rfl ?_
                                      exact j325 (sT s293 (rR σ 7) 5 y199_2 v217) v217 W40 hv217 (rKeep.tr (rKeep.tr (rKeep.tr (rKeep.tr (rKeep.tr (rKeep.tr rKeep.rf kJ rfl rfl rfl rfl rfl) qs217.1 rfl rfl rfl rfl rfl) (rKeep.sF0 (f := 29)) rfl rfl rfl rfl rfl) qs242.1 rfl rfl rfl rfl rfl) qs293.1 rfl rfl rfl rfl rfl) (rKeep.sAk (f := 5) g0 (by decide)) rfl rfl rfl rfl rfl) h
                                    · have h := hF c
                                      refine z_aload_n hC (pc := 300) 1 dX14_readOptions_300 rfl rfl ?_
                                      refine y_get hC (pc := 301) zf14 rOb_0 7 (v := .ref (κ (rR σ 7))) dX14_readOptions_301 zw2475 (rv_g rfl ((qs293.1.R rfl).trans ((qs242.1.R rfl).trans ((qs217.1.R rfl).trans (kJ.R rfl)))) g0) (kk := ?_)
                                      refine y_getN hC (pc := 304) zf13 (rOb_k g0) 2 (v := .ref (κ (1000 * ((rR σ 7) + 1) + 2))) dX14_readOptions_304 zw2314 (rv_c rfl) (kk := ?_)
                                      refine z_iload_n hC (pc := 307) 2 dX14_readOptions_307 rfl rfl ?_
                                      refine z_iload hC (pc := 308) 0 dX14_readOptions_308 rfl ?_
                                      obtain ⟨b41, h⟩ := h
                                      refine y_iast hC (pc := 310) (rAr_k g0 rfl rfl) dX14_readOptions_310 b41 (v := v217) (kk := ?_)
                                      have W42 := Ws293.sA (p := (1000 * ((rR σ 7) + 1) + 2)) (i := x1) (x := v217) hv217
                                      refine z_goto hC (pc := 311) 325 dX14_readOptions_311 (by decide) ?_
                                      refine z_lvs [1, 2, 0] rfl ?_
                                      exact j325 (sT s293 (rR σ 7) 2 x1 v217) v217 W42 hv217 (rKeep.tr (rKeep.tr (rKeep.tr (rKeep.tr (rKeep.tr (rKeep.tr rKeep.rf kJ rfl rfl rfl rfl rfl) qs217.1 rfl rfl rfl rfl rfl) (rKeep.sF0 (f := 29)) rfl rfl rfl rfl rfl) qs242.1 rfl rfl rfl rfl rfl) qs293.1 rfl rfl rfl rfl rfl) (rKeep.sAk (f := 2) g0 (by decide)) rfl rfl rfl rfl rfl) h
                                · have h := hF c
                                  refine z_aload_n hC (pc := 254) 1 dX14_readOptions_254 rfl rfl ?_
                                  refine z_dup hC (pc := 255) dX14_readOptions_255 rfl ?_
                                  refine y_get hC (pc := 256) zf14 rOb_0 29 (v := iv (rF s242 0 29)) dX14_readOptions_256 zw2496 (rv_i (Or.inl rfl) rfl) (kk := ?_)
                                  have h := h (Ws242.f _ _)
                                  refine z_iconst hC (pc := 259) (v := Int32.ofInt 1) dX14_readOptions_259 (by decide) ?_
                                  refine y_iadd hC (pc := 260) (v := ((rF s242 0 29) + 1)) dX14_readOptions_260 rfl ?_
                                  obtain ⟨r43, h⟩ := h
                                  refine y_putI hC (pc := 261) zf14 rOb_0 29 (x := ((rF s242 0 29) + 1)) dX14_readOptions_261 zw2496 (Or.inl rfl) rfl rfl (kk := ?_)
                                  have W44 := Ws242.sF (q := 0) (f := 29) (x := ((rF s242 0 29) + 1)) r43
                                  refine z_aload_n hC (pc := 264) 1 dX14_readOptions_264 rfl rfl ?_
                                  refine y_get hC (pc := 265) zf14 rOb_0 7 (v := .ref (κ (rR σ 7))) dX14_readOptions_265 zw2475 (rv_g rfl ((qs242.1.R rfl).trans ((qs217.1.R rfl).trans (kJ.R rfl))) g0) (kk := ?_)
                                  refine y_getN hC (pc := 268) zf13 (rOb_k g0) 2 (v := .ref (κ (1000 * ((rR σ 7) + 1) + 2))) dX14_readOptions_268 zw2314 (rv_c rfl) (kk := ?_)
                                  refine z_iload hC (pc := 271) 0 dX14_readOptions_271 rfl ?_
                                  refine z_aload_n hC (pc := 273) 1 dX14_readOptions_273 rfl rfl ?_
                                  obtain ⟨g45, h⟩ := h
                                  obtain ⟨p46, h⟩ := h
                                  obtain ⟨p47, h⟩ := h
                                  refine y_callVi hC (pc := 274) (As := []) (qX14_readArg ih (sF s242 0 29 ((rF s242 0 29) + 1)) gg g45 W44  p46 p47) dmX14_readArg zf14 rOb_0 dX14_readOptions_274 zw3234 rfl rfl (Nat.le_of_ble_eq_true rfl) (Nat.le_of_ble_eq_true rfl) (by omega) (by omega) (Nat.le_of_ble_eq_true rfl) (kk := fun v274 s274 hv274 Ws274 qs274 => ?_)
                                  have h := h v274 s274 hv274 Ws274 (TPRp.keep qs274.1 rfl rfl rfl) (CCp.keep qs274.1 rfl rfl rfl rfl rfl rfl rfl) (qs274.1.R rfl) (qs274.1.F rfl) (qs274.1.F rfl) (qs274.1.F rfl) (qs274.1.F rfl) (qs274.1.F rfl) (qs274.1.F rfl) (fun i => qs274.1.A (f := 26) (by decide) rfl) qs274.2
                                  obtain ⟨b48, h⟩ := h
                                  refine y_iast hC (pc := 277) (rAr_k g0 rfl rfl) dX14_readOptions_277 b48 (v := v274) (kk := ?_)
                                  have W49 := Ws274.sA (p := (1000 * ((rR σ 7) + 1) + 2)) (i := v217) (x := v274) hv274
                                  refine z_goto hC (pc := 278) 296 dX14_readOptions_278 (by decide) ?_
                                  refine z_iload_n hC (pc := 296) 3 dX14_readOptions_296 rfl rfl ?_
                                  have j325 : ∀ (s325 : rS) (y325_5 : Int), rWF s325 → rng y325_5 → rKeep 0x6c0a3001c00 0x4100001280 0x13c00000000 0x3ee0000d7f 0 σ s325 → inv_X14_readOptions_325 σ x1 gg g (mu_X14_readOptions_25 σ x1 gg g s25 y25_2 y25_3) s325 y325_5 → zS X G 6 (rW G κ s325) [(0, .ref (κ 0)), (1, iv x1), (5, iv y325_5)] 0 0 325 [] := by
                                    intro s325 y325_5 Ws325 hy325_5 kJ hI
                                    have h := h_325 (mu_X14_readOptions_25 σ x1 gg g s25 y25_2 y25_3) s325 y325_5 Ws325 hy325_5 (TPRp.keep kJ rfl rfl rfl) (CCp.keep kJ rfl rfl rfl rfl rfl rfl rfl) (kJ.R rfl) (kJ.F rfl) (kJ.F rfl) (kJ.F rfl) (kJ.F rfl) (kJ.F rfl) (kJ.F rfl) (fun i => kJ.A (f := 26) (by decide) rfl) hI
                                    refine z_iload hC (pc := 325) 2 dX14_readOptions_325 rfl ?_
                                    refine z_istore_n hC (pc := 327) (lv' := [(2, iv y325_5), (0, .ref (κ 0)), (1, iv x1), (5, iv y325_5)]) dX14_readOptions_327 rfl (by decide) rfl ?_
                                    refine z_aload_n hC (pc := 328) 1 dX14_readOptions_328 rfl rfl ?_
                                    obtain ⟨p50, h⟩ := h
                                    refine y_callVv hC (pc := 329) (As := []) (kX14_blanks l G κ s325  Ws325  p50) dmX14_blanks zf14 rOb_0 dX14_readOptions_329 zw3119 rfl rfl (Nat.le_of_ble_eq_true rfl) (Nat.le_of_ble_eq_true rfl) (by omega) (by omega) (Nat.le_of_ble_eq_true rfl) (kk := fun s329 Ws329 qs329 => ?_)
                                    have h := h s329 Ws329 (rNMp.keep qs329.1 rfl rfl rfl rfl rfl) (TPRp.keep qs329.1 rfl rfl rfl) (WNp.keep qs329.1 rfl rfl rfl rfl rfl) (PNp.keep qs329.1 rfl rfl rfl rfl rfl) (CCp.keep qs329.1 rfl rfl rfl rfl rfl rfl rfl) (qs329.1.R rfl) (qs329.1.F rfl) (qs329.1.F rfl) (qs329.1.F rfl) (qs329.1.F rfl) (qs329.1.F rfl) (qs329.1.F rfl) (qs329.1.F rfl) (qs329.1.F rfl) (qs329.1.F rfl) (qs329.1.F rfl) (fun i => qs329.1.A (f := 26) (by decide) rfl) (qs329.1.FG g0 rfl) (qs329.1.FG g0 rfl) (qs329.1.FG g0 rfl) (qs329.1.FG g0 rfl) (qs329.1.FG g0 rfl) (fz_keep qs329.1 rfl) (RG.keep (c0 := 0) qs329.1 rfl rfl rfl rfl rfl rfl rfl rfl rfl rfl rfl rfl rfl rfl rfl rfl rfl rfl) qs329.2
                                    refine z_aload_n hC (pc := 332) 1 dX14_readOptions_332 rfl rfl ?_
                                    obtain ⟨p51, h⟩ := h
                                    refine y_callVi hC (pc := 333) (As := []) (kX14_here l G κ s329  Ws329  p51) dmX14_here zf14 rOb_0 dX14_readOptions_333 zw3099 rfl rfl (Nat.le_of_ble_eq_true rfl) (Nat.le_of_ble_eq_true rfl) (by omega) (by omega) (Nat.le_of_ble_eq_true rfl) (kk := fun v333 s333 hv333 Ws333 qs333 => ?_)
                                    obtain ⟨es333, qs333⟩ := qs333
                                    have es333 := es333.symm
                                    subst es333
                                    have h := h v333 hv333 qs333
                                    refine z_bipush hC (pc := 336) (v := Int32.ofInt 44) dX14_readOptions_336 (by decide) ?_
                                    obtain ⟨hT, hF⟩ := h
                                    refine y_icmp_ne hC (pc := 338) 345 hv333 (r_lit rfl) dX14_readOptions_338 (by decide) (fun c => ?_) (fun c => ?_)
                                    · have h := hT c
                                      refine z_iconst hC (pc := 345) (v := Int32.ofInt 0) dX14_readOptions_345 (by decide) ?_
                                      refine z_istore_n hC (pc := 346) (lv' := [(3, iv 0), (2, iv y325_5), (0, .ref (κ 0)), (1, iv x1), (5, iv y325_5)]) dX14_readOptions_346 rfl (by decide) rfl ?_
                                      refine z_goto hC (pc := 347) 25 dX14_readOptions_347 (by decide) ?_
                                      refine z_lvs [2, 3, 1, 0] rfl ?_
                                      obtain ⟨hI, hm⟩ := h
                                      exact ih25 s329 y325_5 0 Ws329 hy325_5 (r_lit rfl) (rKeep.tr (rKeep.tr rKeep.rf kJ rfl rfl rfl rfl rfl) qs329.1 rfl rfl rfl rfl rfl) hI (by omega)
                                    · have h := hF c
                                      refine z_iconst hC (pc := 341) (v := Int32.ofInt 1) dX14_readOptions_341 (by decide) ?_
                                      refine z_goto hC (pc := 342) 346 dX14_readOptions_342 (by decide) ?_
                                      refine z_istore_n hC (pc := 346) (lv' := [(3, iv 1), (2, iv y325_5), (0, .ref (κ 0)), (1, iv x1), (5, iv y325_5)]) dX14_readOptions_346 rfl (by decide) rfl ?_
                                      refine z_goto hC (pc := 347) 25 dX14_readOptions_347 (by decide) ?_
                                      refine z_lvs [2, 3, 1, 0] rfl ?_
                                      obtain ⟨hI, hm⟩ := h
                                      exact ih25 s329 y325_5 1 Ws329 hy325_5 (r_lit rfl) (rKeep.tr (rKeep.tr rKeep.rf kJ rfl rfl rfl rfl rfl) qs329.1 rfl rfl rfl rfl rfl) hI (by omega)
                                  obtain ⟨hT, hF⟩ := h
                                  refine y_if_ne hC (pc := 297) 314 hy199_2 dX14_readOptions_297 (by decide) (fun c => ?_) (fun c => ?_)
                                  · have h := hT c
                                    refine z_aload_n hC (pc := 314) 1 dX14_readOptions_314 rfl rfl ?_
                                    refine y_get hC (pc := 315) zf14 rOb_0 7 (v := .ref (κ (rR σ 7))) dX14_readOptions_315 zw2475 (rv_g rfl ((qs274.1.R rfl).trans ((qs242.1.R rfl).trans ((qs217.1.R rfl).trans (kJ.R rfl)))) g0) (kk := ?_)
                                    refine y_getN hC (pc := 318) zf13 (rOb_k g0) 5 (v := .ref (κ (1000 * ((rR σ 7) + 1) + 5))) dX14_readOptions_318 zw2320 (rv_c rfl) (kk := ?_)
                                    refine z_iload_n hC (pc := 321) 3 dX14_readOptions_321 rfl rfl ?_
                                    refine z_iload hC (pc := 322) 0 dX14_readOptions_322 rfl ?_
                                    obtain ⟨b52, h⟩ := h
                                    refine y_iast hC (pc := 324) (rAr_k g0 rfl rfl) dX14_readOptions_324 b52 (v := v217) (kk := ?_)
                                    have W53 := W49.sA (p := (1000 * ((rR σ 7) + 1) + 5)) (i := y199_2) (x := v217) hv217
                                    refine z_lvs [1, 2, 0] rfl ?_
                                    exact j325 (sT (sT s274 (rR σ 7) 2 v217 v274) (rR σ 7) 5 y199_2 v217) v217 W53 hv217 (rKeep.tr (rKeep.tr (rKeep.tr (rKeep.tr (rKeep.tr (rKeep.tr (rKeep.tr (rKeep.tr rKeep.rf kJ rfl rfl rfl rfl rfl) qs217.1 rfl rfl rfl rfl rfl) (rKeep.sF0 (f := 29)) rfl rfl rfl rfl rfl) qs242.1 rfl rfl rfl rfl rfl) (rKeep.sF0 (f := 29)) rfl rfl rfl rfl rfl) qs274.1 rfl rfl rfl rfl rfl) (rKeep.sAk (f := 2) g0 (by decide)) rfl rfl rfl rfl rfl) (rKeep.sAk (f := 5) g0 (by decide)) rfl rfl rfl rfl rfl) h
                                  · have h := hF c
                                    refine z_aload_n hC (pc := 300) 1 dX14_readOptions_300 rfl rfl ?_
                                    refine y_get hC (pc := 301) zf14 rOb_0 7 (v := .ref (κ (rR σ 7))) dX14_readOptions_301 zw2475 (rv_g rfl ((qs274.1.R rfl).trans ((qs242.1.R rfl).trans ((qs217.1.R rfl).trans (kJ.R rfl)))) g0) (kk := ?_)
                                    refine y_getN hC (pc := 304) zf13 (rOb_k g0) 2 (v := .ref (κ (1000 * ((rR σ 7) + 1) + 2))) dX14_readOptions_304 zw2314 (rv_c rfl) (kk := ?_)
                                    refine z_iload_n hC (pc := 307) 2 dX14_readOptions_307 rfl rfl ?_
                                    refine z_iload hC (pc := 308) 0 dX14_readOptions_308 rfl ?_
                                    obtain ⟨b54, h⟩ := h
                                    refine y_iast hC (pc := 310) (rAr_k g0 rfl rfl) dX14_readOptions_310 b54 (v := v217) (kk := ?_)
                                    have W55 := W49.sA (p := (1000 * ((rR σ 7) + 1) + 2)) (i := x1) (x := v217) hv217
                                    refine z_goto hC (pc := 311) 325 dX14_readOptions_311 (by decide) ?_
                                    refine z_lvs [1, 2, 0] rfl ?_
                                    exact j325 (sT (sT s274 (rR σ 7) 2 v217 v274) (rR σ 7) 2 x1 v217) v217 W55 hv217 (rKeep.tr (rKeep.tr (rKeep.tr (rKeep.tr (rKeep.tr (rKeep.tr (rKeep.tr (rKeep.tr rKeep.rf kJ rfl rfl rfl rfl rfl) qs217.1 rfl rfl rfl rfl rfl) (rKeep.sF0 (f := 29)) rfl rfl rfl rfl rfl) qs242.1 rfl rfl rfl rfl rfl) (rKeep.sF0 (f := 29)) rfl rfl rfl rfl rfl) qs274.1 rfl rfl rfl rfl rfl) (rKeep.sAk (f := 2) g0 (by decide)) rfl rfl rfl rfl rfl) (rKeep.sAk (f := 2) g0 (by decide)) rfl rfl rfl rfl rfl) h
                              · have h := hF c
                                exact y_retv hR dX14_readOptions_206 Ws199 (Nat.le_of_ble_eq_true rfl) (Nat.le_of_ble_eq_true rfl) ⟨(rKeep.tr rKeep.rf kJ rfl rfl rfl rfl rfl), h⟩
                            obtain ⟨hT, hF⟩ := h
                            refine y_if_eq hC (pc := 150) 199 hy148_5 dX14_readOptions_150 (by decide) (fun c => ?_) (fun c => ?_)
                            · have h := hT c
                              refine z_lvs [0, 1, 2, 3] rfl ?_
                              exact j199 s148 y148_2 y148_4 Ws148 hy148_2 hy148_4 (rKeep.tr rKeep.rf kJ rfl rfl rfl rfl rfl) h
                            · have h := hF c
                              refine z_aload_n hC (pc := 153) 0 dX14_readOptions_153 rfl rfl ?_
                              refine y_get hC (pc := 154) zf14 rOb_0 10 (v := iv (rF s148 0 10)) dX14_readOptions_154 zw2478 (rv_i (Or.inl rfl) rfl) (kk := ?_)
                              have h := h (Ws148.f _ _)
                              obtain ⟨hT, hF⟩ := h
                              refine y_if_ne hC (pc := 157) 199 (Ws148.f _ _) dX14_readOptions_157 (by decide) (fun c => ?_) (fun c => ?_)
                              · have h := hT c
                                refine z_lvs [0, 1, 2, 3] rfl ?_
                                exact j199 s148 y148_2 y148_4 Ws148 hy148_2 hy148_4 (rKeep.tr rKeep.rf kJ rfl rfl rfl rfl rfl) h
                              · have h := hF c
                                refine z_aload_n hC (pc := 160) 0 dX14_readOptions_160 rfl rfl ?_
                                refine y_get hC (pc := 161) zf14 rOb_0 7 (v := .ref (κ (rR σ 7))) dX14_readOptions_161 zw2475 (rv_g rfl (kJ.R rfl) g0) (kk := ?_)
                                refine y_getN hC (pc := 164) zf13 (rOb_k g0) 1 (v := .ref (κ (1000 * ((rR σ 7) + 1) + 1))) dX14_readOptions_164 zw2312 (rv_c rfl) (kk := ?_)
                                refine z_iload hC (pc := 167) 4 dX14_readOptions_167 rfl ?_
                                obtain ⟨b56, h⟩ := h
                                refine y_iald hC (pc := 169) (rAr_k g0 rfl rfl) dX14_readOptions_169 b56 (v := (rA s148 (1000 * ((rR σ 7) + 1) + 1) y148_5)) rfl (kk := ?_)
                                have h := h (Ws148.a _ _)
                                refine z_iload hC (pc := 170) 3 dX14_readOptions_170 rfl ?_
                                obtain ⟨hT, hF⟩ := h
                                refine y_icmp_ne hC (pc := 172) 184 (Ws148.a _ _) hy148_4 dX14_readOptions_172 (by decide) (fun c => ?_) (fun c => ?_)
                                · have h := hT c
                                  refine z_aload_n hC (pc := 184) 0 dX14_readOptions_184 rfl rfl ?_
                                  refine y_get hC (pc := 185) zf14 rOb_0 7 (v := .ref (κ (rR σ 7))) dX14_readOptions_185 zw2475 (rv_g rfl (kJ.R rfl) g0) (kk := ?_)
                                  refine y_getN hC (pc := 188) zf13 (rOb_k g0) 5 (v := .ref (κ (1000 * ((rR σ 7) + 1) + 5))) dX14_readOptions_188 zw2320 (rv_c rfl) (kk := ?_)
                                  refine z_iload hC (pc := 191) 4 dX14_readOptions_191 rfl ?_
                                  obtain ⟨b57, h⟩ := h
                                  refine y_iald hC (pc := 193) (rAr_k g0 rfl rfl) dX14_readOptions_193 b57 (v := (rA s148 (1000 * ((rR σ 7) + 1) + 5) y148_5)) rfl (kk := ?_)
                                  have h := h (Ws148.a _ _)
                                  refine z_istore hC (pc := 194) (lv' := [(5, iv (rA s148 (1000 * ((rR σ 7) + 1) + 5) y148_5)), (0, .ref (κ 0)), (1, iv x1), (2, iv y148_2), (4, iv y148_4)]) dX14_readOptions_194 (by decide) rfl ?_
                                  refine z_goto hC (pc := 196) 148 dX14_readOptions_196 (by decide) ?_
                                  refine z_lvs [1, 2, 3, 4, 0] rfl ?_
                                  obtain ⟨hI, hm⟩ := h
                                  exact ih148 s148 y148_2 y148_4 (rA s148 (1000 * ((rR σ 7) + 1) + 5) y148_5) Ws148 hy148_2 hy148_4 (Ws148.a _ _) (rKeep.tr rKeep.rf kJ rfl rfl rfl rfl rfl) hI (by omega)
                                · have h := hF c
                                  refine z_aload_n hC (pc := 175) 0 dX14_readOptions_175 rfl rfl ?_
                                  refine z_iconst hC (pc := 176) (v := Int32.ofInt 3) dX14_readOptions_176 (by decide) ?_
                                  refine z_aload_n hC (pc := 177) 0 dX14_readOptions_177 rfl rfl ?_
                                  obtain ⟨p58, h⟩ := h
                                  refine y_callVi hC (pc := 178) (As := []) (kX14_place l G κ s148  Ws148  p58) dmX14_place zf14 rOb_0 dX14_readOptions_178 zw3103 rfl rfl (Nat.le_of_ble_eq_true rfl) (Nat.le_of_ble_eq_true rfl) (by omega) (by omega) (Nat.le_of_ble_eq_true rfl) (kk := fun v178 s178 hv178 Ws178 qs178 => ?_)
                                  obtain ⟨es178, qs178⟩ := qs178
                                  have es178 := es178.symm
                                  subst es178
                                  have h := h v178 hv178 qs178
                                  obtain ⟨p59, h⟩ := h
                                  refine y_callVv hC (pc := 181) (As := [iv 3, iv v178]) (kX14_bad l G κ s148 3 v178 Ws148 (r_lit rfl) hv178 p59) dmX14_bad zf14 rOb_0 dX14_readOptions_181 zw3000 rfl rfl (Nat.le_of_ble_eq_true rfl) (Nat.le_of_ble_eq_true rfl) (by omega) (by omega) (Nat.le_of_ble_eq_true rfl) (kk := fun s181 Ws181 qs181 => ?_)
                                  have h := h s181 Ws181 (rNMp.keep qs181.1 rfl rfl rfl rfl rfl) (TPRp.keep qs181.1 rfl rfl rfl) (WNp.keep qs181.1 rfl rfl rfl rfl rfl) (PNp.keep qs181.1 rfl rfl rfl rfl rfl) (CCp.keep qs181.1 rfl rfl rfl rfl rfl rfl rfl) (qs181.1.R rfl) (qs181.1.F rfl) (qs181.1.F rfl) (qs181.1.F rfl) (qs181.1.F rfl) (qs181.1.F rfl) (qs181.1.F rfl) (qs181.1.F rfl) (qs181.1.F rfl) (qs181.1.F rfl) (qs181.1.F rfl) (fun i => qs181.1.A (f := 26) (by decide) rfl) (qs181.1.FG g0 rfl) (qs181.1.FG g0 rfl) (qs181.1.FG g0 rfl) (qs181.1.FG g0 rfl) (qs181.1.FG g0 rfl) (RG.keep (c0 := 0) qs181.1 rfl rfl rfl rfl rfl rfl rfl rfl rfl rfl rfl rfl rfl rfl rfl rfl rfl rfl) qs181.2
                                  refine z_aload_n hC (pc := 184) 0 dX14_readOptions_184 rfl rfl ?_
                                  refine y_get hC (pc := 185) zf14 rOb_0 7 (v := .ref (κ (rR σ 7))) dX14_readOptions_185 zw2475 (rv_g rfl ((qs181.1.R rfl).trans (kJ.R rfl)) g0) (kk := ?_)
                                  refine y_getN hC (pc := 188) zf13 (rOb_k g0) 5 (v := .ref (κ (1000 * ((rR σ 7) + 1) + 5))) dX14_readOptions_188 zw2320 (rv_c rfl) (kk := ?_)
                                  refine z_iload hC (pc := 191) 4 dX14_readOptions_191 rfl ?_
                                  obtain ⟨b60, h⟩ := h
                                  refine y_iald hC (pc := 193) (rAr_k g0 rfl rfl) dX14_readOptions_193 b60 (v := (rA s181 (1000 * ((rR σ 7) + 1) + 5) y148_5)) rfl (kk := ?_)
                                  have h := h (Ws181.a _ _)
                                  refine z_istore hC (pc := 194) (lv' := [(5, iv (rA s181 (1000 * ((rR σ 7) + 1) + 5) y148_5)), (0, .ref (κ 0)), (1, iv x1), (2, iv y148_2), (4, iv y148_4)]) dX14_readOptions_194 (by decide) rfl ?_
                                  refine z_goto hC (pc := 196) 148 dX14_readOptions_196 (by decide) ?_
                                  refine z_lvs [1, 2, 3, 4, 0] rfl ?_
                                  obtain ⟨hI, hm⟩ := h
                                  exact ih148 s181 y148_2 y148_4 (rA s181 (1000 * ((rR σ 7) + 1) + 5) y148_5) Ws181 hy148_2 hy148_4 (Ws181.a _ _) (rKeep.tr (rKeep.tr rKeep.rf kJ rfl rfl rfl rfl rfl) qs181.1 rfl rfl rfl rfl rfl) hI (by omega)
                        refine z_lvs [2, 3, 4, 1, 0] rfl ?_
                        exact j148 _ s134 y25_2 (-1) (rA s134 (1000 * ((rR σ 7) + 1) + 2) x1) Ws134 hy25_2 (r_lit rfl) (Ws134.a _ _) (rKeep.tr (rKeep.tr (rKeep.tr (rKeep.tr rKeep.rf kJ rfl rfl rfl rfl rfl) (rKeep.sF0 (f := 29)) rfl rfl rfl rfl rfl) qs47.1 rfl rfl rfl rfl rfl) qs134.1 rfl rfl rfl rfl rfl) h (Nat.le_refl _)
                      · have h := hF c
                        refine z_iconst hC (pc := 116) (v := Int32.ofInt 4) dX14_readOptions_116 (by decide) ?_
                        refine z_goto hC (pc := 117) 121 dX14_readOptions_117 (by decide) ?_
                        refine z_istore hC (pc := 121) (lv' := [(4, iv 4), (0, .ref (κ 0)), (1, iv x1), (2, iv y25_2), (3, iv y25_3)]) dX14_readOptions_121 (by decide) rfl ?_
                        refine z_iload hC (pc := 123) 0 dX14_readOptions_123 rfl ?_
                        refine y_if_ge hC (pc := 125) 137 (r_lit rfl) dX14_readOptions_125 (by decide) (fun _ => ?_) (fun c => absurd c (by decide))
                        refine z_aload_n hC (pc := 137) 1 dX14_readOptions_137 rfl rfl ?_
                        refine y_get hC (pc := 138) zf14 rOb_0 7 (v := .ref (κ (rR σ 7))) dX14_readOptions_138 zw2475 (rv_g rfl ((qs47.1.R rfl).trans (kJ.R rfl)) g0) (kk := ?_)
                        refine y_getN hC (pc := 141) zf13 (rOb_k g0) 2 (v := .ref (κ (1000 * ((rR σ 7) + 1) + 2))) dX14_readOptions_141 zw2314 (rv_c rfl) (kk := ?_)
                        refine z_iload_n hC (pc := 144) 2 dX14_readOptions_144 rfl rfl ?_
                        obtain ⟨b61, h⟩ := h
                        refine y_iald hC (pc := 145) (rAr_k g0 rfl rfl) dX14_readOptions_145 b61 (v := (rA s47 (1000 * ((rR σ 7) + 1) + 2) x1)) rfl (kk := ?_)
                        have h := h (Ws47.a _ _)
                        refine z_istore hC (pc := 146) (lv' := [(5, iv (rA s47 (1000 * ((rR σ 7) + 1) + 2) x1)), (4, iv 4), (0, .ref (κ 0)), (1, iv x1), (2, iv y25_2), (3, iv y25_3)]) dX14_readOptions_146 (by decide) rfl ?_
                        have j148 : ∀ (d148 : Nat), ∀ (s148 : rS) (y148_2 : Int) (y148_4 : Int) (y148_5 : Int), rWF s148 → rng y148_2 → rng y148_4 → rng y148_5 → rKeep 0x6c0a3001c00 0x4100001280 0x13c00000000 0x3ee0000d7f 0 σ s148 → inv_X14_readOptions_148 σ x1 gg g (mu_X14_readOptions_25 σ x1 gg g s25 y25_2 y25_3) s148 y148_2 y148_4 y148_5 → (mu_X14_readOptions_148 σ x1 gg g s148 y148_2 y148_4 y148_5) ≤ d148 → zS X G 6 (rW G κ s148) [(0, .ref (κ 0)), (1, iv x1), (2, iv y148_2), (4, iv y148_4), (5, iv y148_5)] 0 0 148 [] := by
                          intro d148
                          induction d148 with
                          | zero =>
                            intro s148 y148_2 y148_4 y148_5 Ws148 hy148_2 hy148_4 hy148_5 kJ hI hmu
                            exact absurd hmu (by have := h_148m (mu_X14_readOptions_25 σ x1 gg g s25 y25_2 y25_3) s148 y148_2 y148_4 y148_5 Ws148 hy148_2 hy148_4 hy148_5 (TPRp.keep kJ rfl rfl rfl) (CCp.keep kJ rfl rfl rfl rfl rfl rfl rfl) (kJ.R rfl) (kJ.F rfl) (kJ.F rfl) (kJ.F rfl) (kJ.F rfl) (kJ.F rfl) (kJ.F rfl) (fun i => kJ.A (f := 26) (by decide) rfl) hI; omega)
                          | succ d148 ih148 =>
                            intro s148 y148_2 y148_4 y148_5 Ws148 hy148_2 hy148_4 hy148_5 kJ hI hmu148
                            have h := h_148 (mu_X14_readOptions_25 σ x1 gg g s25 y25_2 y25_3) s148 y148_2 y148_4 y148_5 Ws148 hy148_2 hy148_4 hy148_5 (TPRp.keep kJ rfl rfl rfl) (CCp.keep kJ rfl rfl rfl rfl rfl rfl rfl) (kJ.R rfl) (kJ.F rfl) (kJ.F rfl) (kJ.F rfl) (kJ.F rfl) (kJ.F rfl) (kJ.F rfl) (fun i => kJ.A (f := 26) (by decide) rfl) hI
                            refine z_iload hC (pc := 148) 4 dX14_readOptions_148 rfl ?_
                            have j199 : ∀ (s199 : rS) (y199_2 : Int) (y199_4 : Int), rWF s199 → rng y199_2 → rng y199_4 → rKeep 0x6c0a3001c00 0x4100001280 0x13c00000000 0x3ee0000d7f 0 σ s199 → inv_X14_readOptions_199 σ x1 gg g (mu_X14_readOptions_25 σ x1 gg g s25 y25_2 y25_3) s199 y199_2 y199_4 → zS X G 6 (rW G κ s199) [(0, .ref (κ 0)), (1, iv x1), (2, iv y199_2), (4, iv y199_4)] 0 0 199 [] := by
                              intro s199 y199_2 y199_4 Ws199 hy199_2 hy199_4 kJ hI
                              have h := h_199 (mu_X14_readOptions_25 σ x1 gg g s25 y25_2 y25_3) s199 y199_2 y199_4 Ws199 hy199_2 hy199_4 (TPRp.keep kJ rfl rfl rfl) (CCp.keep kJ rfl rfl rfl rfl rfl rfl rfl) (kJ.R rfl) (kJ.F rfl) (kJ.F rfl) (kJ.F rfl) (kJ.F rfl) (kJ.F rfl) (kJ.F rfl) (fun i => kJ.A (f := 26) (by decide) rfl) hI
                              refine z_aload_n hC (pc := 199) 0 dX14_readOptions_199 rfl rfl ?_
                              refine y_get hC (pc := 200) zf14 rOb_0 10 (v := iv (rF s199 0 10)) dX14_readOptions_200 zw2478 (rv_i (Or.inl rfl) rfl) (kk := ?_)
                              have h := h (Ws199.f _ _)
                              obtain ⟨hT, hF⟩ := h
                              refine y_if_eq hC (pc := 203) 207 (Ws199.f _ _) dX14_readOptions_203 (by decide) (fun c => ?_) (fun c => ?_)
                              · have h := hT c
                                refine z_aload_n hC (pc := 207) 0 dX14_readOptions_207 rfl rfl ?_
                                refine z_bipush hC (pc := 208) (v := Int32.ofInt 53) dX14_readOptions_208 (by decide) ?_
                                refine z_iload hC (pc := 210) 3 dX14_readOptions_210 rfl ?_
                                refine z_iconst hC (pc := 212) (v := Int32.ofInt 0) dX14_readOptions_212 (by decide) ?_
                                refine z_aload_n hC (pc := 213) 0 dX14_readOptions_213 rfl rfl ?_
                                obtain ⟨p62, h⟩ := h
                                refine y_callVi hC (pc := 214) (As := []) (kX14_place l G κ s199  Ws199  p62) dmX14_place zf14 rOb_0 dX14_readOptions_214 zw3103 rfl rfl (Nat.le_of_ble_eq_true rfl) (Nat.le_of_ble_eq_true rfl) (by omega) (by omega) (Nat.le_of_ble_eq_true rfl) (kk := fun v214 s214 hv214 Ws214 qs214 => ?_)
                                obtain ⟨es214, qs214⟩ := qs214
                                have es214 := es214.symm
                                subst es214
                                have h := h v214 hv214 qs214
                                obtain ⟨p63, h⟩ := h
                                refine y_callVi hC (pc := 217) (As := [iv 53, iv y199_4, iv 0, iv v214]) (kX14_node_t l G κ s199 53 y199_4 0 v214 gg Ws199 (r_lit rfl) hy199_4 (r_lit rfl) hv214 p63) dmX14_node zf14 rOb_0 dX14_readOptions_217 zw3170 rfl rfl (Nat.le_of_ble_eq_true rfl) (Nat.le_of_ble_eq_true rfl) (by omega) (by omega) (Nat.le_of_ble_eq_true rfl) (kk := fun v217 s217 hv217 Ws217 qs217 => ?_)
                                have h := h v217 s217 hv217 Ws217 (rNMp.keep qs217.1 rfl rfl rfl rfl rfl) (TPRp.keep qs217.1 rfl rfl rfl) (WNp.keep qs217.1 rfl rfl rfl rfl rfl) (CCp.keep qs217.1 rfl rfl rfl rfl rfl rfl rfl) (qs217.1.R rfl) (qs217.1.F rfl) (qs217.1.F rfl) (qs217.1.F rfl) (qs217.1.F rfl) (qs217.1.F rfl) (qs217.1.F rfl) (qs217.1.F rfl) (qs217.1.F rfl) (qs217.1.F rfl) (qs217.1.F rfl) (qs217.1.F rfl) (fun i => qs217.1.A (f := 26) (by decide) rfl) (qs217.1.FG g0 rfl) (qs217.1.FG g0 rfl) (qs217.1.FG g0 rfl) (qs217.1.FG g0 rfl) (fz_keep qs217.1 rfl) qs217.2
                                refine z_istore hC (pc := 220) (lv' := [(5, iv v217), (0, .ref (κ 0)), (1, iv x1), (2, iv y199_2), (4, iv y199_4)]) dX14_readOptions_220 (by decide) rfl ?_
                                refine z_aload_n hC (pc := 222) 1 dX14_readOptions_222 rfl rfl ?_
                                refine z_aload_n hC (pc := 223) 1 dX14_readOptions_223 rfl rfl ?_
                                refine y_get hC (pc := 224) zf14 rOb_0 26 (v := .ref (κ 1026)) dX14_readOptions_224 zw2493 (rv_c rfl) (kk := ?_)
                                refine z_aload_n hC (pc := 227) 1 dX14_readOptions_227 rfl rfl ?_
                                refine y_get hC (pc := 228) zf14 rOb_0 28 (v := iv (rF s217 0 28)) dX14_readOptions_228 zw2495 (rv_i (Or.inl rfl) rfl) (kk := ?_)
                                have h := h (Ws217.f _ _)
                                refine z_aload_n hC (pc := 231) 1 dX14_readOptions_231 rfl rfl ?_
                                refine y_get hC (pc := 232) zf14 rOb_0 29 (v := iv (rF s199 0 29)) dX14_readOptions_232 zw2496 (rv_i (Or.inl rfl) ((qs217.1.F rfl).trans rfl)) (kk := ?_)
                                have h := h (Ws199.f _ _)
                                obtain ⟨p64, h⟩ := h
                                refine y_callSi hC (pc := 235) (As := [.ref (κ 1026), iv (rF s217 0 28), iv (rF s199 0 29)]) (kX14_wordEnd_t l G κ s217 1026 4001 (rF s217 0 28) (rF s199 0 29) Ws217 (rAr_m rfl) (Ws217.f _ _) (Ws199.f _ _) p64) dmX14_wordEnd dX14_readOptions_235 zw3009 rfl rfl (Nat.le_of_ble_eq_true rfl) (Nat.le_of_ble_eq_true rfl) (by omega) (by omega) (Nat.le_of_ble_eq_true rfl) (kk := fun v235 s235 hv235 Ws235 qs235 => ?_)
                                obtain ⟨es235, qs235⟩ := qs235
                                have es235 := es235.symm
                                subst es235
                                have h := h v235 hv235 qs235
                                refine y_putI hC (pc := 238) zf14 rOb_0 29 (x := v235) dX14_readOptions_238 zw2496 (Or.inl rfl) rfl rfl (kk := ?_)
                                have W65 := Ws217.sF (q := 0) (f := 29) (x := v235) hv235
                                refine z_aload_n hC (pc := 241) 1 dX14_readOptions_241 rfl rfl ?_
                                obtain ⟨p66, h⟩ := h
                                refine y_callVv hC (pc := 242) (As := []) (kX14_blanks l G κ (sF s217 0 29 v235)  W65  p66) dmX14_blanks zf14 rOb_0 dX14_readOptions_242 zw3119 rfl rfl (Nat.le_of_ble_eq_true rfl) (Nat.le_of_ble_eq_true rfl) (by omega) (by omega) (Nat.le_of_ble_eq_true rfl) (kk := fun s242 Ws242 qs242 => ?_)
                                have h := h s242 Ws242 (rNMp.keep qs242.1 rfl rfl rfl rfl rfl) (TPRp.keep qs242.1 rfl rfl rfl) (WNp.keep qs242.1 rfl rfl rfl rfl rfl) (PNp.keep qs242.1 rfl rfl rfl rfl rfl) (CCp.keep qs242.1 rfl rfl rfl rfl rfl rfl rfl) (qs242.1.R rfl) (qs242.1.F rfl) (qs242.1.F rfl) (qs242.1.F rfl) (qs242.1.F rfl) (qs242.1.F rfl) (qs242.1.F rfl) (qs242.1.F rfl) (qs242.1.F rfl) (qs242.1.F rfl) (qs242.1.F rfl) (fun i => qs242.1.A (f := 26) (by decide) rfl) (qs242.1.FG g0 rfl) (qs242.1.FG g0 rfl) (qs242.1.FG g0 rfl) (qs242.1.FG g0 rfl) (qs242.1.FG g0 rfl) (fz_keep qs242.1 rfl) (RG.keep (c0 := 0) qs242.1 rfl rfl rfl rfl rfl rfl rfl rfl rfl rfl rfl rfl rfl rfl rfl rfl rfl rfl) qs242.2
                                refine z_aload_n hC (pc := 245) 1 dX14_readOptions_245 rfl rfl ?_
                                obtain ⟨p67, h⟩ := h
                                refine y_callVi hC (pc := 246) (As := []) (kX14_here l G κ s242  Ws242  p67) dmX14_here zf14 rOb_0 dX14_readOptions_246 zw3099 rfl rfl (Nat.le_of_ble_eq_true rfl) (Nat.le_of_ble_eq_true rfl) (by omega) (by omega) (Nat.le_of_ble_eq_true rfl) (kk := fun v246 s246 hv246 Ws246 qs246 => ?_)
                                obtain ⟨es246, qs246⟩ := qs246
                                have es246 := es246.symm
                                subst es246
                                have h := h v246 hv246 qs246
                                refine z_bipush hC (pc := 249) (v := Int32.ofInt 61) dX14_readOptions_249 (by decide) ?_
                                obtain ⟨hT, hF⟩ := h
                                refine y_icmp_ne hC (pc := 251) 281 hv246 (r_lit rfl) dX14_readOptions_251 (by decide) (fun c => ?_) (fun c => ?_)
                                · have h := hT c
                                  refine z_iload hC (pc := 281) 4 dX14_readOptions_281 rfl ?_
                                  refine z_iconst hC (pc := 283) (v := Int32.ofInt 3) dX14_readOptions_283 (by decide) ?_
                                  obtain ⟨hT, hF⟩ := h
                                  refine y_icmp_ge hC (pc := 284) 296 hy199_4 (r_lit rfl) dX14_readOptions_284 (by decide) (fun c => ?_) (fun c => ?_)
                                  · have h := hT c
                                    refine z_iload_n hC (pc := 296) 3 dX14_readOptions_296 rfl rfl ?_
                                    have j325 : ∀ (s325 : rS) (y325_5 : Int), rWF s325 → rng y325_5 → rKeep 0x6c0a3001c00 0x4100001280 0x13c00000000 0x3ee0000d7f 0 σ s325 → inv_X14_readOptions_325 σ x1 gg g (mu_X14_readOptions_25 σ x1 gg g s25 y25_2 y25_3) s325 y325_5 → zS X G 6 (rW G κ s325) [(0, .ref (κ 0)), (1, iv x1), (5, iv y325_5)] 0 0 325 [] := by
                                      intro s325 y325_5 Ws325 hy325_5 kJ hI
                                      have h := h_325 (mu_X14_readOptions_25 σ x1 gg g s25 y25_2 y25_3) s325 y325_5 Ws325 hy325_5 (TPRp.keep kJ rfl rfl rfl) (CCp.keep kJ rfl rfl rfl rfl rfl rfl rfl) (kJ.R rfl) (kJ.F rfl) (kJ.F rfl) (kJ.F rfl) (kJ.F rfl) (kJ.F rfl) (kJ.F rfl) (fun i => kJ.A (f := 26) (by decide) rfl) hI
                                      refine z_iload hC (pc := 325) 2 dX14_readOptions_325 rfl ?_
                                      refine z_istore_n hC (pc := 327) (lv' := [(2, iv y325_5), (0, .ref (κ 0)), (1, iv x1), (5, iv y325_5)]) dX14_readOptions_327 rfl (by decide) rfl ?_
                                      refine z_aload_n hC (pc := 328) 1 dX14_readOptions_328 rfl rfl ?_
                                      obtain ⟨p68, h⟩ := h
                                      refine y_callVv hC (pc := 329) (As := []) (kX14_blanks l G κ s325  Ws325  p68) dmX14_blanks zf14 rOb_0 dX14_readOptions_329 zw3119 rfl rfl (Nat.le_of_ble_eq_true rfl) (Nat.le_of_ble_eq_true rfl) (by omega) (by omega) (Nat.le_of_ble_eq_true rfl) (kk := fun s329 Ws329 qs329 => ?_)
                                      have h := h s329 Ws329 (rNMp.keep qs329.1 rfl rfl rfl rfl rfl) (TPRp.keep qs329.1 rfl rfl rfl) (WNp.keep qs329.1 rfl rfl rfl rfl rfl) (PNp.keep qs329.1 rfl rfl rfl rfl rfl) (CCp.keep qs329.1 rfl rfl rfl rfl rfl rfl rfl) (qs329.1.R rfl) (qs329.1.F rfl) (qs329.1.F rfl) (qs329.1.F rfl) (qs329.1.F rfl) (qs329.1.F rfl) (qs329.1.F rfl) (qs329.1.F rfl) (qs329.1.F rfl) (qs329.1.F rfl) (qs329.1.F rfl) (fun i => qs329.1.A (f := 26) (by decide) rfl) (qs329.1.FG g0 rfl) (qs329.1.FG g0 rfl) (qs329.1.FG g0 rfl) (qs329.1.FG g0 rfl) (qs329.1.FG g0 rfl) (fz_keep qs329.1 rfl) (RG.keep (c0 := 0) qs329.1 rfl rfl rfl rfl rfl rfl rfl rfl rfl rfl rfl rfl rfl rfl rfl rfl rfl rfl) qs329.2
                                      refine z_aload_n hC (pc := 332) 1 dX14_readOptions_332 rfl rfl ?_
                                      obtain ⟨p69, h⟩ := h
                                      refine y_callVi hC (pc := 333) (As := []) (kX14_here l G κ s329  Ws329  p69) dmX14_here zf14 rOb_0 dX14_readOptions_333 zw3099 rfl rfl (Nat.le_of_ble_eq_true rfl) (Nat.le_of_ble_eq_true rfl) (by omega) (by omega) (Nat.le_of_ble_eq_true rfl) (kk := fun v333 s333 hv333 Ws333 qs333 => ?_)
                                      obtain ⟨es333, qs333⟩ := qs333
                                      have es333 := es333.symm
                                      subst es333
                                      have h := h v333 hv333 qs333
                                      refine z_bipush hC (pc := 336) (v := Int32.ofInt 44) dX14_readOptions_336 (by decide) ?_
                                      obtain ⟨hT, hF⟩ := h
                                      refine y_icmp_ne hC (pc := 338) 345 hv333 (r_lit rfl) dX14_readOptions_338 (by decide) (fun c => ?_) (fun c => ?_)
                                      · have h := hT c
                                        refine z_iconst hC (pc := 345) (v := Int32.ofInt 0) dX14_readOptions_345 (by decide) ?_
                                        refine z_istore_n hC (pc := 346) (lv' := [(3, iv 0), (2, iv y325_5), (0, .ref (κ 0)), (1, iv x1), (5, iv y325_5)]) dX14_readOptions_346 rfl (by decide) rfl ?_
                                        refine z_goto hC (pc := 347) 25 dX14_readOptions_347 (by decide) ?_
                                        refine z_lvs [2, 3, 1, 0] rfl ?_
                                        obtain ⟨hI, hm⟩ := h
                                        exact ih25 s329 y325_5 0 Ws329 hy325_5 (r_lit rfl) (rKeep.tr (rKeep.tr rKeep.rf kJ rfl rfl rfl rfl rfl) qs329.1 rfl rfl rfl rfl rfl) hI (by omega)
                                      · have h := hF c
                                        refine z_iconst hC (pc := 341) (v := Int32.ofInt 1) dX14_readOptions_341 (by decide) ?_
                                        refine z_goto hC (pc := 342) 346 dX14_readOptions_342 (by decide) ?_
                                        refine z_istore_n hC (pc := 346) (lv' := [(3, iv 1), (2, iv y325_5), (0, .ref (κ 0)), (1, iv x1), (5, iv y325_5)]) dX14_readOptions_346 rfl (by decide) rfl ?_
                                        refine z_goto hC (pc := 347) 25 dX14_readOptions_347 (by decide) ?_
                                        refine z_lvs [2, 3, 1, 0] rfl ?_
                                        obtain ⟨hI, hm⟩ := h
                                        exact ih25 s329 y325_5 1 Ws329 hy325_5 (r_lit rfl) (rKeep.tr (rKeep.tr rKeep.rf kJ rfl rfl rfl rfl rfl) qs329.1 rfl rfl rfl rfl rfl) hI (by omega)
                                    obtain ⟨hT, hF⟩ := h
                                    refine y_if_ne hC (pc := 297) 314 hy199_2 dX14_readOptions_297 (by decide) (fun c => ?_) (fun c => ?_)
                                    · have h := hT c
                                      refine z_aload_n hC (pc := 314) 1 dX14_readOptions_314 rfl rfl ?_
                                      refine y_get hC (pc := 315) zf14 rOb_0 7 (v := .ref (κ (rR σ 7))) dX14_readOptions_315 zw2475 (rv_g rfl ((qs242.1.R rfl).trans ((qs217.1.R rfl).trans (kJ.R rfl))) g0) (kk := ?_)
                                      refine y_getN hC (pc := 318) zf13 (rOb_k g0) 5 (v := .ref (κ (1000 * ((rR σ 7) + 1) + 5))) dX14_readOptions_318 zw2320 (rv_c rfl) (kk := ?_)
                                      refine z_iload_n hC (pc := 321) 3 dX14_readOptions_321 rfl rfl ?_
                                      refine z_iload hC (pc := 322) 0 dX14_readOptions_322 rfl ?_
                                      obtain ⟨b70, h⟩ := h
                                      refine y_iast hC (pc := 324) (rAr_k g0 rfl rfl) dX14_readOptions_324 b70 (v := v217) (kk := ?_)
                                      have W71 := Ws242.sA (p := (1000 * ((rR σ 7) + 1) + 5)) (i := y199_2) (x := v217) hv217
                                      refine z_lvs [1, 2, 0] rfl ?_
                                      exact j325 (sT s242 (rR σ 7) 5 y199_2 v217) v217 W71 hv217 (rKeep.tr (rKeep.tr (rKeep.tr (rKeep.tr (rKeep.tr rKeep.rf kJ rfl rfl rfl rfl rfl) qs217.1 rfl rfl rfl rfl rfl) (rKeep.sF0 (f := 29)) rfl rfl rfl rfl rfl) qs242.1 rfl rfl rfl rfl rfl) (rKeep.sAk (f := 5) g0 (by decide)) rfl rfl rfl rfl rfl) h
                                    · have h := hF c
                                      refine z_aload_n hC (pc := 300) 1 dX14_readOptions_300 rfl rfl ?_
                                      refine y_get hC (pc := 301) zf14 rOb_0 7 (v := .ref (κ (rR σ 7))) dX14_readOptions_301 zw2475 (rv_g rfl ((qs242.1.R rfl).trans ((qs217.1.R rfl).trans (kJ.R rfl))) g0) (kk := ?_)
                                      refine y_getN hC (pc := 304) zf13 (rOb_k g0) 2 (v := .ref (κ (1000 * ((rR σ 7) + 1) + 2))) dX14_readOptions_304 zw2314 (rv_c rfl) (kk := ?_)
                                      refine z_iload_n hC (pc := 307) 2 dX14_readOptions_307 rfl rfl ?_
                                      refine z_iload hC (pc := 308) 0 dX14_readOptions_308 rfl ?_
                                      obtain ⟨b72, h⟩ := h
                                      refine y_iast hC (pc := 310) (rAr_k g0 rfl rfl) dX14_readOptions_310 b72 (v := v217) (kk := ?_)
                                      have W73 := Ws242.sA (p := (1000 * ((rR σ 7) + 1) + 2)) (i := x1) (x := v217) hv217
                                      refine z_goto hC (pc := 311) 325 dX14_readOptions_311 (by decide) ?_
                                      refine z_lvs [1, 2, 0] rfl ?_
                                      exact j325 (sT s242 (rR σ 7) 2 x1 v217) v217 W73 hv217 (rKeep.tr (rKeep.tr (rKeep.tr (rKeep.tr (rKeep.tr rKeep.rf kJ rfl rfl rfl rfl rfl) qs217.1 rfl rfl rfl rfl rfl) (rKeep.sF0 (f := 29)) rfl rfl rfl rfl rfl) qs242.1 rfl rfl rfl rfl rfl) (rKeep.sAk (f := 2) g0 (by decide)) rfl rfl rfl rfl rfl) h
                                  · have h := hF c
                                    refine z_aload_n hC (pc := 287) 1 dX14_readOptions_287 rfl rfl ?_
                                    refine z_iconst hC (pc := 288) (v := Int32.ofInt 1) dX14_readOptions_288 (by decide) ?_
                                    refine z_aload_n hC (pc := 289) 1 dX14_readOptions_289 rfl rfl ?_
                                    obtain ⟨p74, h⟩ := h
                                    refine y_callVi hC (pc := 290) (As := []) (kX14_place l G κ s242  Ws242  p74) dmX14_place zf14 rOb_0 dX14_readOptions_290 zw3103 rfl rfl (Nat.le_of_ble_eq_true rfl) (Nat.le_of_ble_eq_true rfl) (by omega) (by omega) (Nat.le_of_ble_eq_true rfl) (kk := fun v290 s290 hv290 Ws290 qs290 => ?_)
                                    obtain ⟨es290, qs290⟩ := qs290
                                    have es290 := es290.symm
                                    subst es290
                                    have h := h v290 hv290 qs290
                                    obtain ⟨p75, h⟩ := h
                                    refine y_callVv hC (pc := 293) (As := [iv 1, iv v290]) (kX14_bad l G κ s242 1 v290 Ws242 (r_lit rfl) hv290 p75) dmX14_bad zf14 rOb_0 dX14_readOptions_293 zw3000 rfl rfl (Nat.le_of_ble_eq_true rfl) (Nat.le_of_ble_eq_true rfl) (by omega) (by omega) (Nat.le_of_ble_eq_true rfl) (kk := fun s293 Ws293 qs293 => ?_)
                                    have h := h s293 Ws293 (rNMp.keep qs293.1 rfl rfl rfl rfl rfl) (TPRp.keep qs293.1 rfl rfl rfl) (WNp.keep qs293.1 rfl rfl rfl rfl rfl) (PNp.keep qs293.1 rfl rfl rfl rfl rfl) (CCp.keep qs293.1 rfl rfl rfl rfl rfl rfl rfl) (qs293.1.R rfl) (qs293.1.F rfl) (qs293.1.F rfl) (qs293.1.F rfl) (qs293.1.F rfl) (qs293.1.F rfl) (qs293.1.F rfl) (qs293.1.F rfl) (qs293.1.F rfl) (qs293.1.F rfl) (qs293.1.F rfl) (fun i => qs293.1.A (f := 26) (by decide) rfl) (qs293.1.FG g0 rfl) (qs293.1.FG g0 rfl) (qs293.1.FG g0 rfl) (qs293.1.FG g0 rfl) (qs293.1.FG g0 rfl) (RG.keep (c0 := 0) qs293.1 rfl rfl rfl rfl rfl rfl rfl rfl rfl rfl rfl rfl rfl rfl rfl rfl rfl rfl) qs293.2
                                    refine z_iload_n hC (pc := 296) 3 dX14_readOptions_296 rfl rfl ?_
                                    have j325 : ∀ (s325 : rS) (y325_5 : Int), rWF s325 → rng y325_5 → rKeep 0x6c0a3001c00 0x4100001280 0x13c00000000 0x3ee0000d7f 0 σ s325 → inv_X14_readOptions_325 σ x1 gg g (mu_X14_readOptions_25 σ x1 gg g s25 y25_2 y25_3) s325 y325_5 → zS X G 6 (rW G κ s325) [(0, .ref (κ 0)), (1, iv x1), (5, iv y325_5)] 0 0 325 [] := by
                                      intro s325 y325_5 Ws325 hy325_5 kJ hI
                                      have h := h_325 (mu_X14_readOptions_25 σ x1 gg g s25 y25_2 y25_3) s325 y325_5 Ws325 hy325_5 (TPRp.keep kJ rfl rfl rfl) (CCp.keep kJ rfl rfl rfl rfl rfl rfl rfl) (kJ.R rfl) (kJ.F rfl) (kJ.F rfl) (kJ.F rfl) (kJ.F rfl) (kJ.F rfl) (kJ.F rfl) (fun i => kJ.A (f := 26) (by decide) rfl) hI
                                      refine z_iload hC (pc := 325) 2 dX14_readOptions_325 rfl ?_
                                      refine z_istore_n hC (pc := 327) (lv' := [(2, iv y325_5), (0, .ref (κ 0)), (1, iv x1), (5, iv y325_5)]) dX14_readOptions_327 rfl (by decide) rfl ?_
                                      refine z_aload_n hC (pc := 328) 1 dX14_readOptions_328 rfl rfl ?_
                                      obtain ⟨p76, h⟩ := h
                                      refine y_callVv hC (pc := 329) (As := []) (kX14_blanks l G κ s325  Ws325  p76) dmX14_blanks zf14 rOb_0 dX14_readOptions_329 zw3119 rfl rfl (Nat.le_of_ble_eq_true rfl) (Nat.le_of_ble_eq_true rfl) (by omega) (by omega) (Nat.le_of_ble_eq_true rfl) (kk := fun s329 Ws329 qs329 => ?_)
                                      have h := h s329 Ws329 (rNMp.keep qs329.1 rfl rfl rfl rfl rfl) (TPRp.keep qs329.1 rfl rfl rfl) (WNp.keep qs329.1 rfl rfl rfl rfl rfl) (PNp.keep qs329.1 rfl rfl rfl rfl rfl) (CCp.keep qs329.1 rfl rfl rfl rfl rfl rfl rfl) (qs329.1.R rfl) (qs329.1.F rfl) (qs329.1.F rfl) (qs329.1.F rfl) (qs329.1.F rfl) (qs329.1.F rfl) (qs329.1.F rfl) (qs329.1.F rfl) (qs329.1.F rfl) (qs329.1.F rfl) (qs329.1.F rfl) (fun i => qs329.1.A (f := 26) (by decide) rfl) (qs329.1.FG g0 rfl) (qs329.1.FG g0 rfl) (qs329.1.FG g0 rfl) (qs329.1.FG g0 rfl) (qs329.1.FG g0 rfl) (fz_keep qs329.1 rfl) (RG.keep (c0 := 0) qs329.1 rfl rfl rfl rfl rfl rfl rfl rfl rfl rfl rfl rfl rfl rfl rfl rfl rfl rfl) qs329.2
                                      refine z_aload_n hC (pc := 332) 1 dX14_readOptions_332 rfl rfl ?_
                                      obtain ⟨p77, h⟩ := h
                                      refine y_callVi hC (pc := 333) (As := []) (kX14_here l G κ s329  Ws329  p77) dmX14_here zf14 rOb_0 dX14_readOptions_333 zw3099 rfl rfl (Nat.le_of_ble_eq_true rfl) (Nat.le_of_ble_eq_true rfl) (by omega) (by omega) (Nat.le_of_ble_eq_true rfl) (kk := fun v333 s333 hv333 Ws333 qs333 => ?_)
                                      obtain ⟨es333, qs333⟩ := qs333
                                      have es333 := es333.symm
                                      subst es333
                                      have h := h v333 hv333 qs333
                                      refine z_bipush hC (pc := 336) (v := Int32.ofInt 44) dX14_readOptions_336 (by decide) ?_
                                      obtain ⟨hT, hF⟩ := h
                                      refine y_icmp_ne hC (pc := 338) 345 hv333 (r_lit rfl) dX14_readOptions_338 (by decide) (fun c => ?_) (fun c => ?_)
                                      · have h := hT c
                                        refine z_iconst hC (pc := 345) (v := Int32.ofInt 0) dX14_readOptions_345 (by decide) ?_
                                        refine z_istore_n hC (pc := 346) (lv' := [(3, iv 0), (2, iv y325_5), (0, .ref (κ 0)), (1, iv x1), (5, iv y325_5)]) dX14_readOptions_346 rfl (by decide) rfl ?_
                                        refine z_goto hC (pc := 347) 25 dX14_readOptions_347 (by decide) ?_
                                        refine z_lvs [2, 3, 1, 0] rfl ?_
                                        obtain ⟨hI, hm⟩ := h
                                        exact ih25 s329 y325_5 0 Ws329 hy325_5 (r_lit rfl) (rKeep.tr (rKeep.tr rKeep.rf kJ rfl rfl rfl rfl rfl) qs329.1 rfl rfl rfl rfl rfl) hI (by omega)
                                      · have h := hF c
                                        refine z_iconst hC (pc := 341) (v := Int32.ofInt 1) dX14_readOptions_341 (by decide) ?_
                                        refine z_goto hC (pc := 342) 346 dX14_readOptions_342 (by decide) ?_
                                        refine z_istore_n hC (pc := 346) (lv' := [(3, iv 1), (2, iv y325_5), (0, .ref (κ 0)), (1, iv x1), (5, iv y325_5)]) dX14_readOptions_346 rfl (by decide) rfl ?_
                                        refine z_goto hC (pc := 347) 25 dX14_readOptions_347 (by decide) ?_
                                        refine z_lvs [2, 3, 1, 0] rfl ?_
                                        obtain ⟨hI, hm⟩ := h
                                        exact ih25 s329 y325_5 1 Ws329 hy325_5 (r_lit rfl) (rKeep.tr (rKeep.tr rKeep.rf kJ rfl rfl rfl rfl rfl) qs329.1 rfl rfl rfl rfl rfl) hI (by omega)
                                    obtain ⟨hT, hF⟩ := h
                                    refine y_if_ne hC (pc := 297) 314 hy199_2 dX14_readOptions_297 (by decide) (fun c => ?_) (fun c => ?_)
                                    · have h := hT c
                                      refine z_aload_n hC (pc := 314) 1 dX14_readOptions_314 rfl rfl ?_
                                      refine y_get hC (pc := 315) zf14 rOb_0 7 (v := .ref (κ (rR σ 7))) dX14_readOptions_315 zw2475 (rv_g rfl ((qs293.1.R rfl).trans ((qs242.1.R rfl).trans ((qs217.1.R rfl).trans (kJ.R rfl)))) g0) (kk := ?_)
                                      refine y_getN hC (pc := 318) zf13 (rOb_k g0) 5 (v := .ref (κ (1000 * ((rR σ 7) + 1) + 5))) dX14_readOptions_318 zw2320 (rv_c rfl) (kk := ?_)
                                      refine z_iload_n hC (pc := 321) 3 dX14_readOptions_321 rfl rfl ?_
                                      refine z_iload hC (pc := 322) 0 dX14_readOptions_322 rfl ?_
                                      obtain ⟨b78, h⟩ := h
                                      refine y_iast hC (pc := 324) (rAr_k g0 rfl rfl) dX14_readOptions_324 b78 (v := v217) (kk := ?_)
                                      have W79 := Ws293.sA (p := (1000 * ((rR σ 7) + 1) + 5)) (i := y199_2) (x := v217) hv217
                                      refine z_lvs [1, 2, 0] rfl ?_
                                      exact j325 (sT s293 (rR σ 7) 5 y199_2 v217) v217 W79 hv217 (rKeep.tr (rKeep.tr (rKeep.tr (rKeep.tr (rKeep.tr (rKeep.tr rKeep.rf kJ rfl rfl rfl rfl rfl) qs217.1 rfl rfl rfl rfl rfl) (rKeep.sF0 (f := 29)) rfl rfl rfl rfl rfl) qs242.1 rfl rfl rfl rfl rfl) qs293.1 rfl rfl rfl rfl rfl) (rKeep.sAk (f := 5) g0 (by decide)) rfl rfl rfl rfl rfl) h
                                    · have h := hF c
                                      refine z_aload_n hC (pc := 300) 1 dX14_readOptions_300 rfl rfl ?_
                                      refine y_get hC (pc := 301) zf14 rOb_0 7 (v := .ref (κ (rR σ 7))) dX14_readOptions_301 zw2475 (rv_g rfl ((qs293.1.R rfl).trans ((qs242.1.R rfl).trans ((qs217.1.R rfl).trans (kJ.R rfl)))) g0) (kk := ?_)
                                      refine y_getN hC (pc := 304) zf13 (rOb_k g0) 2 (v := .ref (κ (1000 * ((rR σ 7) + 1) + 2))) dX14_readOptions_304 zw2314 (rv_c rfl) (kk := ?_)
                                      refine z_iload_n hC (pc := 307) 2 dX14_readOptions_307 rfl rfl ?_
                                      refine z_iload hC (pc := 308) 0 dX14_readOptions_308 rfl ?_
                                      obtain ⟨b80, h⟩ := h
                                      refine y_iast hC (pc := 310) (rAr_k g0 rfl rfl) dX14_readOptions_310 b80 (v := v217) (kk := ?_)
                                      have W81 := Ws293.sA (p := (1000 * ((rR σ 7) + 1) + 2)) (i := x1) (x := v217) hv217
                                      refine z_goto hC (pc := 311) 325 dX14_readOptions_311 (by decide) ?_
                                      refine z_lvs [1, 2, 0] rfl ?_
                                      exact j325 (sT s293 (rR σ 7) 2 x1 v217) v217 W81 hv217 (rKeep.tr (rKeep.tr (rKeep.tr (rKeep.tr (rKeep.tr (rKeep.tr rKeep.rf kJ rfl rfl rfl rfl rfl) qs217.1 rfl rfl rfl rfl rfl) (rKeep.sF0 (f := 29)) rfl rfl rfl rfl rfl) qs242.1 rfl rfl rfl rfl rfl) qs293.1 rfl rfl rfl rfl rfl) (rKeep.sAk (f := 2) g0 (by decide)) rfl rfl rfl rfl rfl) h
                                · have h := hF c
                                  refine z_aload_n hC (pc := 254) 1 dX14_readOptions_254 rfl rfl ?_
                                  refine z_dup hC (pc := 255) dX14_readOptions_255 rfl ?_
                                  refine y_get hC (pc := 256) zf14 rOb_0 29 (v := iv (rF s242 0 29)) dX14_readOptions_256 zw2496 (rv_i (Or.inl rfl) rfl) (kk := ?_)
                                  have h := h (Ws242.f _ _)
                                  refine z_iconst hC (pc := 259) (v := Int32.ofInt 1) dX14_readOptions_259 (by decide) ?_
                                  refine y_iadd hC (pc := 260) (v := ((rF s242 0 29) + 1)) dX14_readOptions_260 rfl ?_
                                  obtain ⟨r82, h⟩ := h
                                  refine y_putI hC (pc := 261) zf14 rOb_0 29 (x := ((rF s242 0 29) + 1)) dX14_readOptions_261 zw2496 (Or.inl rfl) rfl rfl (kk := ?_)
                                  have W83 := Ws242.sF (q := 0) (f := 29) (x := ((rF s242 0 29) + 1)) r82
                                  refine z_aload_n hC (pc := 264) 1 dX14_readOptions_264 rfl rfl ?_
                                  refine y_get hC (pc := 265) zf14 rOb_0 7 (v := .ref (κ (rR σ 7))) dX14_readOptions_265 zw2475 (rv_g rfl ((qs242.1.R rfl).trans ((qs217.1.R rfl).trans (kJ.R rfl))) g0) (kk := ?_)
                                  refine y_getN hC (pc := 268) zf13 (rOb_k g0) 2 (v := .ref (κ (1000 * ((rR σ 7) + 1) + 2))) dX14_readOptions_268 zw2314 (rv_c rfl) (kk := ?_)
                                  refine z_iload hC (pc := 271) 0 dX14_readOptions_271 rfl ?_
                                  refine z_aload_n hC (pc := 273) 1 dX14_readOptions_273 rfl rfl ?_
                                  obtain ⟨g84, h⟩ := h
                                  obtain ⟨p85, h⟩ := h
                                  obtain ⟨p86, h⟩ := h
                                  refine y_callVi hC (pc := 274) (As := []) (qX14_readArg ih (sF s242 0 29 ((rF s242 0 29) + 1)) gg g84 W83  p85 p86) dmX14_readArg zf14 rOb_0 dX14_readOptions_274 zw3234 rfl rfl (Nat.le_of_ble_eq_true rfl) (Nat.le_of_ble_eq_true rfl) (by omega) (by omega) (Nat.le_of_ble_eq_true rfl) (kk := fun v274 s274 hv274 Ws274 qs274 => ?_)
                                  have h := h v274 s274 hv274 Ws274 (TPRp.keep qs274.1 rfl rfl rfl) (CCp.keep qs274.1 rfl rfl rfl rfl rfl rfl rfl) (qs274.1.R rfl) (qs274.1.F rfl) (qs274.1.F rfl) (qs274.1.F rfl) (qs274.1.F rfl) (qs274.1.F rfl) (qs274.1.F rfl) (fun i => qs274.1.A (f := 26) (by decide) rfl) qs274.2
                                  obtain ⟨b87, h⟩ := h
                                  refine y_iast hC (pc := 277) (rAr_k g0 rfl rfl) dX14_readOptions_277 b87 (v := v274) (kk := ?_)
                                  have W88 := Ws274.sA (p := (1000 * ((rR σ 7) + 1) + 2)) (i := v217) (x := v274) hv274
                                  refine z_goto hC (pc := 278) 296 dX14_readOptions_278 (by decide) ?_
                                  refine z_iload_n hC (pc := 296) 3 dX14_readOptions_296 rfl rfl ?_
                                  have j325 : ∀ (s325 : rS) (y325_5 : Int), rWF s325 → rng y325_5 → rKeep 0x6c0a3001c00 0x4100001280 0x13c00000000 0x3ee0000d7f 0 σ s325 → inv_X14_readOptions_325 σ x1 gg g (mu_X14_readOptions_25 σ x1 gg g s25 y25_2 y25_3) s325 y325_5 → zS X G 6 (rW G κ s325) [(0, .ref (κ 0)), (1, iv x1), (5, iv y325_5)] 0 0 325 [] := by
                                    intro s325 y325_5 Ws325 hy325_5 kJ hI
                                    have h := h_325 (mu_X14_readOptions_25 σ x1 gg g s25 y25_2 y25_3) s325 y325_5 Ws325 hy325_5 (TPRp.keep kJ rfl rfl rfl) (CCp.keep kJ rfl rfl rfl rfl rfl rfl rfl) (kJ.R rfl) (kJ.F rfl) (kJ.F rfl) (kJ.F rfl) (kJ.F rfl) (kJ.F rfl) (kJ.F rfl) (fun i => kJ.A (f := 26) (by decide) rfl) hI
                                    refine z_iload hC (pc := 325) 2 dX14_readOptions_325 rfl ?_
                                    refine z_istore_n hC (pc := 327) (lv' := [(2, iv y325_5), (0, .ref (κ 0)), (1, iv x1), (5, iv y325_5)]) dX14_readOptions_327 rfl (by decide) rfl ?_
                                    refine z_aload_n hC (pc := 328) 1 dX14_readOptions_328 rfl rfl ?_
                                    obtain ⟨p89, h⟩ := h
                                    refine y_callVv hC (pc := 329) (As := []) (kX14_blanks l G κ s325  Ws325  p89) dmX14_blanks zf14 rOb_0 dX14_readOptions_329 zw3119 rfl rfl (Nat.le_of_ble_eq_true rfl) (Nat.le_of_ble_eq_true rfl) (by omega) (by omega) (Nat.le_of_ble_eq_true rfl) (kk := fun s329 Ws329 qs329 => ?_)
                                    have h := h s329 Ws329 (rNMp.keep qs329.1 rfl rfl rfl rfl rfl) (TPRp.keep qs329.1 rfl rfl rfl) (WNp.keep qs329.1 rfl rfl rfl rfl rfl) (PNp.keep qs329.1 rfl rfl rfl rfl rfl) (CCp.keep qs329.1 rfl rfl rfl rfl rfl rfl rfl) (qs329.1.R rfl) (qs329.1.F rfl) (qs329.1.F rfl) (qs329.1.F rfl) (qs329.1.F rfl) (qs329.1.F rfl) (qs329.1.F rfl) (qs329.1.F rfl) (qs329.1.F rfl) (qs329.1.F rfl) (qs329.1.F rfl) (fun i => qs329.1.A (f := 26) (by decide) rfl) (qs329.1.FG g0 rfl) (qs329.1.FG g0 rfl) (qs329.1.FG g0 rfl) (qs329.1.FG g0 rfl) (qs329.1.FG g0 rfl) (fz_keep qs329.1 rfl) (RG.keep (c0 := 0) qs329.1 rfl rfl rfl rfl rfl rfl rfl rfl rfl rfl rfl rfl rfl rfl rfl rfl rfl rfl) qs329.2
                                    refine z_aload_n hC (pc := 332) 1 dX14_readOptions_332 rfl rfl ?_
                                    obtain ⟨p90, h⟩ := h
                                    refine y_callVi hC (pc := 333) (As := []) (kX14_here l G κ s329  Ws329  p90) dmX14_here zf14 rOb_0 dX14_readOptions_333 zw3099 rfl rfl (Nat.le_of_ble_eq_true rfl) (Nat.le_of_ble_eq_true rfl) (by omega) (by omega) (Nat.le_of_ble_eq_true rfl) (kk := fun v333 s333 hv333 Ws333 qs333 => ?_)
                                    obtain ⟨es333, qs333⟩ := qs333
                                    have es333 := es333.symm
                                    subst es333
                                    have h := h v333 hv333 qs333
                                    refine z_bipush hC (pc := 336) (v := Int32.ofInt 44) dX14_readOptions_336 (by decide) ?_
                                    obtain ⟨hT, hF⟩ := h
                                    refine y_icmp_ne hC (pc := 338) 345 hv333 (r_lit rfl) dX14_readOptions_338 (by decide) (fun c => ?_) (fun c => ?_)
                                    · have h := hT c
                                      refine z_iconst hC (pc := 345) (v := Int32.ofInt 0) dX14_readOptions_345 (by decide) ?_
                                      refine z_istore_n hC (pc := 346) (lv' := [(3, iv 0), (2, iv y325_5), (0, .ref (κ 0)), (1, iv x1), (5, iv y325_5)]) dX14_readOptions_346 rfl (by decide) rfl ?_
                                      refine z_goto hC (pc := 347) 25 dX14_readOptions_347 (by decide) ?_
                                      refine z_lvs [2, 3, 1, 0] rfl ?_
                                      obtain ⟨hI, hm⟩ := h
                                      exact ih25 s329 y325_5 0 Ws329 hy325_5 (r_lit rfl) (rKeep.tr (rKeep.tr rKeep.rf kJ rfl rfl rfl rfl rfl) qs329.1 rfl rfl rfl rfl rfl) hI (by omega)
                                    · have h := hF c
                                      refine z_iconst hC (pc := 341) (v := Int32.ofInt 1) dX14_readOptions_341 (by decide) ?_
                                      refine z_goto hC (pc := 342) 346 dX14_readOptions_342 (by decide) ?_
                                      refine z_istore_n hC (pc := 346) (lv' := [(3, iv 1), (2, iv y325_5), (0, .ref (κ 0)), (1, iv x1), (5, iv y325_5)]) dX14_readOptions_346 rfl (by decide) rfl ?_
                                      refine z_goto hC (pc := 347) 25 dX14_readOptions_347 (by decide) ?_
                                      refine z_lvs [2, 3, 1, 0] rfl ?_
                                      obtain ⟨hI, hm⟩ := h
                                      exact ih25 s329 y325_5 1 Ws329 hy325_5 (r_lit rfl) (rKeep.tr (rKeep.tr rKeep.rf kJ rfl rfl rfl rfl rfl) qs329.1 rfl rfl rfl rfl rfl) hI (by omega)
                                  obtain ⟨hT, hF⟩ := h
                                  refine y_if_ne hC (pc := 297) 314 hy199_2 dX14_readOptions_297 (by decide) (fun c => ?_) (fun c => ?_)
                                  · have h := hT c
                                    refine z_aload_n hC (pc := 314) 1 dX14_readOptions_314 rfl rfl ?_
                                    refine y_get hC (pc := 315) zf14 rOb_0 7 (v := .ref (κ (rR σ 7))) dX14_readOptions_315 zw2475 (rv_g rfl ((qs274.1.R rfl).trans ((qs242.1.R rfl).trans ((qs217.1.R rfl).trans (kJ.R rfl)))) g0) (kk := ?_)
                                    refine y_getN hC (pc := 318) zf13 (rOb_k g0) 5 (v := .ref (κ (1000 * ((rR σ 7) + 1) + 5))) dX14_readOptions_318 zw2320 (rv_c rfl) (kk := ?_)
                                    refine z_iload_n hC (pc := 321) 3 dX14_readOptions_321 rfl rfl ?_
                                    refine z_iload hC (pc := 322) 0 dX14_readOptions_322 rfl ?_
                                    obtain ⟨b91, h⟩ := h
                                    refine y_iast hC (pc := 324) (rAr_k g0 rfl rfl) dX14_readOptions_324 b91 (v := v217) (kk := ?_)
                                    have W92 := W88.sA (p := (1000 * ((rR σ 7) + 1) + 5)) (i := y199_2) (x := v217) hv217
                                    refine z_lvs [1, 2, 0] rfl ?_
                                    exact j325 (sT (sT s274 (rR σ 7) 2 v217 v274) (rR σ 7) 5 y199_2 v217) v217 W92 hv217 (rKeep.tr (rKeep.tr (rKeep.tr (rKeep.tr (rKeep.tr (rKeep.tr (rKeep.tr (rKeep.tr rKeep.rf kJ rfl rfl rfl rfl rfl) qs217.1 rfl rfl rfl rfl rfl) (rKeep.sF0 (f := 29)) rfl rfl rfl rfl rfl) qs242.1 rfl rfl rfl rfl rfl) (rKeep.sF0 (f := 29)) rfl rfl rfl rfl rfl) qs274.1 rfl rfl rfl rfl rfl) (rKeep.sAk (f := 2) g0 (by decide)) rfl rfl rfl rfl rfl) (rKeep.sAk (f := 5) g0 (by decide)) rfl rfl rfl rfl rfl) h
                                  · have h := hF c
                                    refine z_aload_n hC (pc := 300) 1 dX14_readOptions_300 rfl rfl ?_
                                    refine y_get hC (pc := 301) zf14 rOb_0 7 (v := .ref (κ (rR σ 7))) dX14_readOptions_301 zw2475 (rv_g rfl ((qs274.1.R rfl).trans ((qs242.1.R rfl).trans ((qs217.1.R rfl).trans (kJ.R rfl)))) g0) (kk := ?_)
                                    refine y_getN hC (pc := 304) zf13 (rOb_k g0) 2 (v := .ref (κ (1000 * ((rR σ 7) + 1) + 2))) dX14_readOptions_304 zw2314 (rv_c rfl) (kk := ?_)
                                    refine z_iload_n hC (pc := 307) 2 dX14_readOptions_307 rfl rfl ?_
                                    refine z_iload hC (pc := 308) 0 dX14_readOptions_308 rfl ?_
                                    obtain ⟨b93, h⟩ := h
                                    refine y_iast hC (pc := 310) (rAr_k g0 rfl rfl) dX14_readOptions_310 b93 (v := v217) (kk := ?_)
                                    have W94 := W88.sA (p := (1000 * ((rR σ 7) + 1) + 2)) (i := x1) (x := v217) hv217
                                    refine z_goto hC (pc := 311) 325 dX14_readOptions_311 (by decide) ?_
                                    refine z_lvs [1, 2, 0] rfl ?_
                                    exact j325 (sT (sT s274 (rR σ 7) 2 v217 v274) (rR σ 7) 2 x1 v217) v217 W94 hv217 (rKeep.tr (rKeep.tr (rKeep.tr (rKeep.tr (rKeep.tr (rKeep.tr (rKeep.tr (rKeep.tr rKeep.rf kJ rfl rfl rfl rfl rfl) qs217.1 rfl rfl rfl rfl rfl) (rKeep.sF0 (f := 29)) rfl rfl rfl rfl rfl) qs242.1 rfl rfl rfl rfl rfl) (rKeep.sF0 (f := 29)) rfl rfl rfl rfl rfl) qs274.1 rfl rfl rfl rfl rfl) (rKeep.sAk (f := 2) g0 (by decide)) rfl rfl rfl rfl rfl) (rKeep.sAk (f := 2) g0 (by decide)) rfl rfl rfl rfl rfl) h
                              · have h := hF c
                                exact y_retv hR dX14_readOptions_206 Ws199 (Nat.le_of_ble_eq_true rfl) (Nat.le_of_ble_eq_true rfl) ⟨(rKeep.tr rKeep.rf kJ rfl rfl rfl rfl rfl), h⟩
                            obtain ⟨hT, hF⟩ := h
                            refine y_if_eq hC (pc := 150) 199 hy148_5 dX14_readOptions_150 (by decide) (fun c => ?_) (fun c => ?_)
                            · have h := hT c
                              refine z_lvs [0, 1, 2, 3] rfl ?_
                              exact j199 s148 y148_2 y148_4 Ws148 hy148_2 hy148_4 (rKeep.tr rKeep.rf kJ rfl rfl rfl rfl rfl) h
                            · have h := hF c
                              refine z_aload_n hC (pc := 153) 0 dX14_readOptions_153 rfl rfl ?_
                              refine y_get hC (pc := 154) zf14 rOb_0 10 (v := iv (rF s148 0 10)) dX14_readOptions_154 zw2478 (rv_i (Or.inl rfl) rfl) (kk := ?_)
                              have h := h (Ws148.f _ _)
                              obtain ⟨hT, hF⟩ := h
                              refine y_if_ne hC (pc := 157) 199 (Ws148.f _ _) dX14_readOptions_157 (by decide) (fun c => ?_) (fun c => ?_)
                              · have h := hT c
                                refine z_lvs [0, 1, 2, 3] rfl ?_
                                exact j199 s148 y148_2 y148_4 Ws148 hy148_2 hy148_4 (rKeep.tr rKeep.rf kJ rfl rfl rfl rfl rfl) h
                              · have h := hF c
                                refine z_aload_n hC (pc := 160) 0 dX14_readOptions_160 rfl rfl ?_
                                refine y_get hC (pc := 161) zf14 rOb_0 7 (v := .ref (κ (rR σ 7))) dX14_readOptions_161 zw2475 (rv_g rfl (kJ.R rfl) g0) (kk := ?_)
                                refine y_getN hC (pc := 164) zf13 (rOb_k g0) 1 (v := .ref (κ (1000 * ((rR σ 7) + 1) + 1))) dX14_readOptions_164 zw2312 (rv_c rfl) (kk := ?_)
                                refine z_iload hC (pc := 167) 4 dX14_readOptions_167 rfl ?_
                                obtain ⟨b95, h⟩ := h
                                refine y_iald hC (pc := 169) (rAr_k g0 rfl rfl) dX14_readOptions_169 b95 (v := (rA s148 (1000 * ((rR σ 7) + 1) + 1) y148_5)) rfl (kk := ?_)
                                have h := h (Ws148.a _ _)
                                refine z_iload hC (pc := 170) 3 dX14_readOptions_170 rfl ?_
                                obtain ⟨hT, hF⟩ := h
                                refine y_icmp_ne hC (pc := 172) 184 (Ws148.a _ _) hy148_4 dX14_readOptions_172 (by decide) (fun c => ?_) (fun c => ?_)
                                · have h := hT c
                                  refine z_aload_n hC (pc := 184) 0 dX14_readOptions_184 rfl rfl ?_
                                  refine y_get hC (pc := 185) zf14 rOb_0 7 (v := .ref (κ (rR σ 7))) dX14_readOptions_185 zw2475 (rv_g rfl (kJ.R rfl) g0) (kk := ?_)
                                  refine y_getN hC (pc := 188) zf13 (rOb_k g0) 5 (v := .ref (κ (1000 * ((rR σ 7) + 1) + 5))) dX14_readOptions_188 zw2320 (rv_c rfl) (kk := ?_)
                                  refine z_iload hC (pc := 191) 4 dX14_readOptions_191 rfl ?_
                                  obtain ⟨b96, h⟩ := h
                                  refine y_iald hC (pc := 193) (rAr_k g0 rfl rfl) dX14_readOptions_193 b96 (v := (rA s148 (1000 * ((rR σ 7) + 1) + 5) y148_5)) rfl (kk := ?_)
                                  have h := h (Ws148.a _ _)
                                  refine z_istore hC (pc := 194) (lv' := [(5, iv (rA s148 (1000 * ((rR σ 7) + 1) + 5) y148_5)), (0, .ref (κ 0)), (1, iv x1), (2, iv y148_2), (4, iv y148_4)]) dX14_readOptions_194 (by decide) rfl ?_
                                  refine z_goto hC (pc := 196) 148 dX14_readOptions_196 (by decide) ?_
                                  refine z_lvs [1, 2, 3, 4, 0] rfl ?_
                                  obtain ⟨hI, hm⟩ := h
                                  exact ih148 s148 y148_2 y148_4 (rA s148 (1000 * ((rR σ 7) + 1) + 5) y148_5) Ws148 hy148_2 hy148_4 (Ws148.a _ _) (rKeep.tr rKeep.rf kJ rfl rfl rfl rfl rfl) hI (by omega)
                                · have h := hF c
                                  refine z_aload_n hC (pc := 175) 0 dX14_readOptions_175 rfl rfl ?_
                                  refine z_iconst hC (pc := 176) (v := Int32.ofInt 3) dX14_readOptions_176 (by decide) ?_
                                  refine z_aload_n hC (pc := 177) 0 dX14_readOptions_177 rfl rfl ?_
                                  obtain ⟨p97, h⟩ := h
                                  refine y_callVi hC (pc := 178) (As := []) (kX14_place l G κ s148  Ws148  p97) dmX14_place zf14 rOb_0 dX14_readOptions_178 zw3103 rfl rfl (Nat.le_of_ble_eq_true rfl) (Nat.le_of_ble_eq_true rfl) (by omega) (by omega) (Nat.le_of_ble_eq_true rfl) (kk := fun v178 s178 hv178 Ws178 qs178 => ?_)
                                  obtain ⟨es178, qs178⟩ := qs178
                                  have es178 := es178.symm
                                  subst es178
                                  have h := h v178 hv178 qs178
                                  obtain ⟨p98, h⟩ := h
                                  refine y_callVv hC (pc := 181) (As := [iv 3, iv v178]) (kX14_bad l G κ s148 3 v178 Ws148 (r_lit rfl) hv178 p98) dmX14_bad zf14 rOb_0 dX14_readOptions_181 zw3000 rfl rfl (Nat.le_of_ble_eq_true rfl) (Nat.le_of_ble_eq_true rfl) (by omega) (by omega) (Nat.le_of_ble_eq_true rfl) (kk := fun s181 Ws181 qs181 => ?_)
                                  have h := h s181 Ws181 (rNMp.keep qs181.1 rfl rfl rfl rfl rfl) (TPRp.keep qs181.1 rfl rfl rfl) (WNp.keep qs181.1 rfl rfl rfl rfl rfl) (PNp.keep qs181.1 rfl rfl rfl rfl rfl) (CCp.keep qs181.1 rfl rfl rfl rfl rfl rfl rfl) (qs181.1.R rfl) (qs181.1.F rfl) (qs181.1.F rfl) (qs181.1.F rfl) (qs181.1.F rfl) (qs181.1.F rfl) (qs181.1.F rfl) (qs181.1.F rfl) (qs181.1.F rfl) (qs181.1.F rfl) (qs181.1.F rfl) (fun i => qs181.1.A (f := 26) (by decide) rfl) (qs181.1.FG g0 rfl) (qs181.1.FG g0 rfl) (qs181.1.FG g0 rfl) (qs181.1.FG g0 rfl) (qs181.1.FG g0 rfl) (RG.keep (c0 := 0) qs181.1 rfl rfl rfl rfl rfl rfl rfl rfl rfl rfl rfl rfl rfl rfl rfl rfl rfl rfl) qs181.2
                                  refine z_aload_n hC (pc := 184) 0 dX14_readOptions_184 rfl rfl ?_
                                  refine y_get hC (pc := 185) zf14 rOb_0 7 (v := .ref (κ (rR σ 7))) dX14_readOptions_185 zw2475 (rv_g rfl ((qs181.1.R rfl).trans (kJ.R rfl)) g0) (kk := ?_)
                                  refine y_getN hC (pc := 188) zf13 (rOb_k g0) 5 (v := .ref (κ (1000 * ((rR σ 7) + 1) + 5))) dX14_readOptions_188 zw2320 (rv_c rfl) (kk := ?_)
                                  refine z_iload hC (pc := 191) 4 dX14_readOptions_191 rfl ?_
                                  obtain ⟨b99, h⟩ := h
                                  refine y_iald hC (pc := 193) (rAr_k g0 rfl rfl) dX14_readOptions_193 b99 (v := (rA s181 (1000 * ((rR σ 7) + 1) + 5) y148_5)) rfl (kk := ?_)
                                  have h := h (Ws181.a _ _)
                                  refine z_istore hC (pc := 194) (lv' := [(5, iv (rA s181 (1000 * ((rR σ 7) + 1) + 5) y148_5)), (0, .ref (κ 0)), (1, iv x1), (2, iv y148_2), (4, iv y148_4)]) dX14_readOptions_194 (by decide) rfl ?_
                                  refine z_goto hC (pc := 196) 148 dX14_readOptions_196 (by decide) ?_
                                  refine z_lvs [1, 2, 3, 4, 0] rfl ?_
                                  obtain ⟨hI, hm⟩ := h
                                  exact ih148 s181 y148_2 y148_4 (rA s181 (1000 * ((rR σ 7) + 1) + 5) y148_5) Ws181 hy148_2 hy148_4 (Ws181.a _ _) (rKeep.tr (rKeep.tr rKeep.rf kJ rfl rfl rfl rfl rfl) qs181.1 rfl rfl rfl rfl rfl) hI (by omega)
                        refine z_lvs [2, 3, 4, 1, 0] rfl ?_
                        exact j148 _ s47 y25_2 4 (rA s47 (1000 * ((rR σ 7) + 1) + 2) x1) Ws47 hy25_2 (r_lit rfl) (Ws47.a _ _) (rKeep.tr (rKeep.tr (rKeep.tr rKeep.rf kJ rfl rfl rfl rfl rfl) (rKeep.sF0 (f := 29)) rfl rfl rfl rfl rfl) qs47.1 rfl rfl rfl rfl rfl) h (Nat.le_refl _)
                    · have h := hF c
                      refine z_iconst hC (pc := 102) (v := Int32.ofInt 3) dX14_readOptions_102 (by decide) ?_
                      refine z_goto hC (pc := 103) 121 dX14_readOptions_103 (by decide) ?_
                      refine z_istore hC (pc := 121) (lv' := [(4, iv 3), (0, .ref (κ 0)), (1, iv x1), (2, iv y25_2), (3, iv y25_3)]) dX14_readOptions_121 (by decide) rfl ?_
                      refine z_iload hC (pc := 123) 0 dX14_readOptions_123 rfl ?_
                      refine y_if_ge hC (pc := 125) 137 (r_lit rfl) dX14_readOptions_125 (by decide) (fun _ => ?_) (fun c => absurd c (by decide))
                      refine z_aload_n hC (pc := 137) 1 dX14_readOptions_137 rfl rfl ?_
                      refine y_get hC (pc := 138) zf14 rOb_0 7 (v := .ref (κ (rR σ 7))) dX14_readOptions_138 zw2475 (rv_g rfl ((qs47.1.R rfl).trans (kJ.R rfl)) g0) (kk := ?_)
                      refine y_getN hC (pc := 141) zf13 (rOb_k g0) 2 (v := .ref (κ (1000 * ((rR σ 7) + 1) + 2))) dX14_readOptions_141 zw2314 (rv_c rfl) (kk := ?_)
                      refine z_iload_n hC (pc := 144) 2 dX14_readOptions_144 rfl rfl ?_
                      obtain ⟨b100, h⟩ := h
                      refine y_iald hC (pc := 145) (rAr_k g0 rfl rfl) dX14_readOptions_145 b100 (v := (rA s47 (1000 * ((rR σ 7) + 1) + 2) x1)) rfl (kk := ?_)
                      have h := h (Ws47.a _ _)
                      refine z_istore hC (pc := 146) (lv' := [(5, iv (rA s47 (1000 * ((rR σ 7) + 1) + 2) x1)), (4, iv 3), (0, .ref (κ 0)), (1, iv x1), (2, iv y25_2), (3, iv y25_3)]) dX14_readOptions_146 (by decide) rfl ?_
                      have j148 : ∀ (d148 : Nat), ∀ (s148 : rS) (y148_2 : Int) (y148_4 : Int) (y148_5 : Int), rWF s148 → rng y148_2 → rng y148_4 → rng y148_5 → rKeep 0x6c0a3001c00 0x4100001280 0x13c00000000 0x3ee0000d7f 0 σ s148 → inv_X14_readOptions_148 σ x1 gg g (mu_X14_readOptions_25 σ x1 gg g s25 y25_2 y25_3) s148 y148_2 y148_4 y148_5 → (mu_X14_readOptions_148 σ x1 gg g s148 y148_2 y148_4 y148_5) ≤ d148 → zS X G 6 (rW G κ s148) [(0, .ref (κ 0)), (1, iv x1), (2, iv y148_2), (4, iv y148_4), (5, iv y148_5)] 0 0 148 [] := by
                        intro d148
                        induction d148 with
                        | zero =>
                          intro s148 y148_2 y148_4 y148_5 Ws148 hy148_2 hy148_4 hy148_5 kJ hI hmu
                          exact absurd hmu (by have := h_148m (mu_X14_readOptions_25 σ x1 gg g s25 y25_2 y25_3) s148 y148_2 y148_4 y148_5 Ws148 hy148_2 hy148_4 hy148_5 (TPRp.keep kJ rfl rfl rfl) (CCp.keep kJ rfl rfl rfl rfl rfl rfl rfl) (kJ.R rfl) (kJ.F rfl) (kJ.F rfl) (kJ.F rfl) (kJ.F rfl) (kJ.F rfl) (kJ.F rfl) (fun i => kJ.A (f := 26) (by decide) rfl) hI; omega)
                        | succ d148 ih148 =>
                          intro s148 y148_2 y148_4 y148_5 Ws148 hy148_2 hy148_4 hy148_5 kJ hI hmu148
                          have h := h_148 (mu_X14_readOptions_25 σ x1 gg g s25 y25_2 y25_3) s148 y148_2 y148_4 y148_5 Ws148 hy148_2 hy148_4 hy148_5 (TPRp.keep kJ rfl rfl rfl) (CCp.keep kJ rfl rfl rfl rfl rfl rfl rfl) (kJ.R rfl) (kJ.F rfl) (kJ.F rfl) (kJ.F rfl) (kJ.F rfl) (kJ.F rfl) (kJ.F rfl) (fun i => kJ.A (f := 26) (by decide) rfl) hI
                          refine z_iload hC (pc := 148) 4 dX14_readOptions_148 rfl ?_
                          have j199 : ∀ (s199 : rS) (y199_2 : Int) (y199_4 : Int), rWF s199 → rng y199_2 → rng y199_4 → rKeep 0x6c0a3001c00 0x4100001280 0x13c00000000 0x3ee0000d7f 0 σ s199 → inv_X14_readOptions_199 σ x1 gg g (mu_X14_readOptions_25 σ x1 gg g s25 y25_2 y25_3) s199 y199_2 y199_4 → zS X G 6 (rW G κ s199) [(0, .ref (κ 0)), (1, iv x1), (2, iv y199_2), (4, iv y199_4)] 0 0 199 [] := by
                            intro s199 y199_2 y199_4 Ws199 hy199_2 hy199_4 kJ hI
                            have h := h_199 (mu_X14_readOptions_25 σ x1 gg g s25 y25_2 y25_3) s199 y199_2 y199_4 Ws199 hy199_2 hy199_4 (TPRp.keep kJ rfl rfl rfl) (CCp.keep kJ rfl rfl rfl rfl rfl rfl rfl) (kJ.R rfl) (kJ.F rfl) (kJ.F rfl) (kJ.F rfl) (kJ.F rfl) (kJ.F rfl) (kJ.F rfl) (fun i => kJ.A (f := 26) (by decide) rfl) hI
                            refine z_aload_n hC (pc := 199) 0 dX14_readOptions_199 rfl rfl ?_
                            refine y_get hC (pc := 200) zf14 rOb_0 10 (v := iv (rF s199 0 10)) dX14_readOptions_200 zw2478 (rv_i (Or.inl rfl) rfl) (kk := ?_)
                            have h := h (Ws199.f _ _)
                            obtain ⟨hT, hF⟩ := h
                            refine y_if_eq hC (pc := 203) 207 (Ws199.f _ _) dX14_readOptions_203 (by decide) (fun c => ?_) (fun c => ?_)
                            · have h := hT c
                              refine z_aload_n hC (pc := 207) 0 dX14_readOptions_207 rfl rfl ?_
                              refine z_bipush hC (pc := 208) (v := Int32.ofInt 53) dX14_readOptions_208 (by decide) ?_
                              refine z_iload hC (pc := 210) 3 dX14_readOptions_210 rfl ?_
                              refine z_iconst hC (pc := 212) (v := Int32.ofInt 0) dX14_readOptions_212 (by decide) ?_
                              refine z_aload_n hC (pc := 213) 0 dX14_readOptions_213 rfl rfl ?_
                              obtain ⟨p101, h⟩ := h
                              refine y_callVi hC (pc := 214) (As := []) (kX14_place l G κ s199  Ws199  p101) dmX14_place zf14 rOb_0 dX14_readOptions_214 zw3103 rfl rfl (Nat.le_of_ble_eq_true rfl) (Nat.le_of_ble_eq_true rfl) (by omega) (by omega) (Nat.le_of_ble_eq_true rfl) (kk := fun v214 s214 hv214 Ws214 qs214 => ?_)
                              obtain ⟨es214, qs214⟩ := qs214
                              have es214 := es214.symm
                              subst es214
                              have h := h v214 hv214 qs214
                              obtain ⟨p102, h⟩ := h
                              refine y_callVi hC (pc := 217) (As := [iv 53, iv y199_4, iv 0, iv v214]) (kX14_node_t l G κ s199 53 y199_4 0 v214 gg Ws199 (r_lit rfl) hy199_4 (r_lit rfl) hv214 p102) dmX14_node zf14 rOb_0 dX14_readOptions_217 zw3170 rfl rfl (Nat.le_of_ble_eq_true rfl) (Nat.le_of_ble_eq_true rfl) (by omega) (by omega) (Nat.le_of_ble_eq_true rfl) (kk := fun v217 s217 hv217 Ws217 qs217 => ?_)
                              have h := h v217 s217 hv217 Ws217 (rNMp.keep qs217.1 rfl rfl rfl rfl rfl) (TPRp.keep qs217.1 rfl rfl rfl) (WNp.keep qs217.1 rfl rfl rfl rfl rfl) (CCp.keep qs217.1 rfl rfl rfl rfl rfl rfl rfl) (qs217.1.R rfl) (qs217.1.F rfl) (qs217.1.F rfl) (qs217.1.F rfl) (qs217.1.F rfl) (qs217.1.F rfl) (qs217.1.F rfl) (qs217.1.F rfl) (qs217.1.F rfl) (qs217.1.F rfl) (qs217.1.F rfl) (qs217.1.F rfl) (fun i => qs217.1.A (f := 26) (by decide) rfl) (qs217.1.FG g0 rfl) (qs217.1.FG g0 rfl) (qs217.1.FG g0 rfl) (qs217.1.FG g0 rfl) (fz_keep qs217.1 rfl) qs217.2
                              refine z_istore hC (pc := 220) (lv' := [(5, iv v217), (0, .ref (κ 0)), (1, iv x1), (2, iv y199_2), (4, iv y199_4)]) dX14_readOptions_220 (by decide) rfl ?_
                              refine z_aload_n hC (pc := 222) 1 dX14_readOptions_222 rfl rfl ?_
                              refine z_aload_n hC (pc := 223) 1 dX14_readOptions_223 rfl rfl ?_
                              refine y_get hC (pc := 224) zf14 rOb_0 26 (v := .ref (κ 1026)) dX14_readOptions_224 zw2493 (rv_c rfl) (kk := ?_)
                              refine z_aload_n hC (pc := 227) 1 dX14_readOptions_227 rfl rfl ?_
                              refine y_get hC (pc := 228) zf14 rOb_0 28 (v := iv (rF s217 0 28)) dX14_readOptions_228 zw2495 (rv_i (Or.inl rfl) rfl) (kk := ?_)
                              have h := h (Ws217.f _ _)
                              refine z_aload_n hC (pc := 231) 1 dX14_readOptions_231 rfl rfl ?_
                              refine y_get hC (pc := 232) zf14 rOb_0 29 (v := iv (rF s199 0 29)) dX14_readOptions_232 zw2496 (rv_i (Or.inl rfl) ((qs217.1.F rfl).trans rfl)) (kk := ?_)
                              have h := h (Ws199.f _ _)
                              obtain ⟨p103, h⟩ := h
                              refine y_callSi hC (pc := 235) (As := [.ref (κ 1026), iv (rF s217 0 28), iv (rF s199 0 29)]) (kX14_wordEnd_t l G κ s217 1026 4001 (rF s217 0 28) (rF s199 0 29) Ws217 (rAr_m rfl) (Ws217.f _ _) (Ws199.f _ _) p103) dmX14_wordEnd dX14_readOptions_235 zw3009 rfl rfl (Nat.le_of_ble_eq_true rfl) (Nat.le_of_ble_eq_true rfl) (by omega) (by omega) (Nat.le_of_ble_eq_true rfl) (kk := fun v235 s235 hv235 Ws235 qs235 => ?_)
                              obtain ⟨es235, qs235⟩ := qs235
                              have es235 := es235.symm
                              subst es235
                              have h := h v235 hv235 qs235
                              refine y_putI hC (pc := 238) zf14 rOb_0 29 (x := v235) dX14_readOptions_238 zw2496 (Or.inl rfl) rfl rfl (kk := ?_)
                              have W104 := Ws217.sF (q := 0) (f := 29) (x := v235) hv235
                              refine z_aload_n hC (pc := 241) 1 dX14_readOptions_241 rfl rfl ?_
                              obtain ⟨p105, h⟩ := h
                              refine y_callVv hC (pc := 242) (As := []) (kX14_blanks l G κ (sF s217 0 29 v235)  W104  p105) dmX14_blanks zf14 rOb_0 dX14_readOptions_242 zw3119 rfl rfl (Nat.le_of_ble_eq_true rfl) (Nat.le_of_ble_eq_true rfl) (by omega) (by omega) (Nat.le_of_ble_eq_true rfl) (kk := fun s242 Ws242 qs242 => ?_)
                              have h := h s242 Ws242 (rNMp.keep qs242.1 rfl rfl rfl rfl rfl) (TPRp.keep qs242.1 rfl rfl rfl) (WNp.keep qs242.1 rfl rfl rfl rfl rfl) (PNp.keep qs242.1 rfl rfl rfl rfl rfl) (CCp.keep qs242.1 rfl rfl rfl rfl rfl rfl rfl) (qs242.1.R rfl) (qs242.1.F rfl) (qs242.1.F rfl) (qs242.1.F rfl) (qs242.1.F rfl) (qs242.1.F rfl) (qs242.1.F rfl) (qs242.1.F rfl) (qs242.1.F rfl) (qs242.1.F rfl) (qs242.1.F rfl) (fun i => qs242.1.A (f := 26) (by decide) rfl) (qs242.1.FG g0 rfl) (qs242.1.FG g0 rfl) (qs242.1.FG g0 rfl) (qs242.1.FG g0 rfl) (qs242.1.FG g0 rfl) (fz_keep qs242.1 rfl) (RG.keep (c0 := 0) qs242.1 rfl rfl rfl rfl rfl rfl rfl rfl rfl rfl rfl rfl rfl rfl rfl rfl rfl rfl) qs242.2
                              refine z_aload_n hC (pc := 245) 1 dX14_readOptions_245 rfl rfl ?_
                              obtain ⟨p106, h⟩ := h
                              refine y_callVi hC (pc := 246) (As := []) (kX14_here l G κ s242  Ws242  p106) dmX14_here zf14 rOb_0 dX14_readOptions_246 zw3099 rfl rfl (Nat.le_of_ble_eq_true rfl) (Nat.le_of_ble_eq_true rfl) (by omega) (by omega) (Nat.le_of_ble_eq_true rfl) (kk := fun v246 s246 hv246 Ws246 qs246 => ?_)
                              obtain ⟨es246, qs246⟩ := qs246
                              have es246 := es246.symm
                              subst es246
                              have h := h v246 hv246 qs246
                              refine z_bipush hC (pc := 249) (v := Int32.ofInt 61) dX14_readOptions_249 (by decide) ?_
                              obtain ⟨hT, hF⟩ := h
                              refine y_icmp_ne hC (pc := 251) 281 hv246 (r_lit rfl) dX14_readOptions_251 (by decide) (fun c => ?_) (fun c => ?_)
                              · have h := hT c
                                refine z_iload hC (pc := 281) 4 dX14_readOptions_281 rfl ?_
                                refine z_iconst hC (pc := 283) (v := Int32.ofInt 3) dX14_readOptions_283 (by decide) ?_
                                obtain ⟨hT, hF⟩ := h
                                refine y_icmp_ge hC (pc := 284) 296 hy199_4 (r_lit rfl) dX14_readOptions_284 (by decide) (fun c => ?_) (fun c => ?_)
                                · have h := hT c
                                  refine z_iload_n hC (pc := 296) 3 dX14_readOptions_296 rfl rfl ?_
                                  have j325 : ∀ (s325 : rS) (y325_5 : Int), rWF s325 → rng y325_5 → rKeep 0x6c0a3001c00 0x4100001280 0x13c00000000 0x3ee0000d7f 0 σ s325 → inv_X14_readOptions_325 σ x1 gg g (mu_X14_readOptions_25 σ x1 gg g s25 y25_2 y25_3) s325 y325_5 → zS X G 6 (rW G κ s325) [(0, .ref (κ 0)), (1, iv x1), (5, iv y325_5)] 0 0 325 [] := by
                                    intro s325 y325_5 Ws325 hy325_5 kJ hI
                                    have h := h_325 (mu_X14_readOptions_25 σ x1 gg g s25 y25_2 y25_3) s325 y325_5 Ws325 hy325_5 (TPRp.keep kJ rfl rfl rfl) (CCp.keep kJ rfl rfl rfl rfl rfl rfl rfl) (kJ.R rfl) (kJ.F rfl) (kJ.F rfl) (kJ.F rfl) (kJ.F rfl) (kJ.F rfl) (kJ.F rfl) (fun i => kJ.A (f := 26) (by decide) rfl) hI
                                    refine z_iload hC (pc := 325) 2 dX14_readOptions_325 rfl ?_
                                    refine z_istore_n hC (pc := 327) (lv' := [(2, iv y325_5), (0, .ref (κ 0)), (1, iv x1), (5, iv y325_5)]) dX14_readOptions_327 rfl (by decide) rfl ?_
                                    refine z_aload_n hC (pc := 328) 1 dX14_readOptions_328 rfl rfl ?_
                                    obtain ⟨p107, h⟩ := h
                                    refine y_callVv hC (pc := 329) (As := []) (kX14_blanks l G κ s325  Ws325  p107) dmX14_blanks zf14 rOb_0 dX14_readOptions_329 zw3119 rfl rfl (Nat.le_of_ble_eq_true rfl) (Nat.le_of_ble_eq_true rfl) (by omega) (by omega) (Nat.le_of_ble_eq_true rfl) (kk := fun s329 Ws329 qs329 => ?_)
                                    have h := h s329 Ws329 (rNMp.keep qs329.1 rfl rfl rfl rfl rfl) (TPRp.keep qs329.1 rfl rfl rfl) (WNp.keep qs329.1 rfl rfl rfl rfl rfl) (PNp.keep qs329.1 rfl rfl rfl rfl rfl) (CCp.keep qs329.1 rfl rfl rfl rfl rfl rfl rfl) (qs329.1.R rfl) (qs329.1.F rfl) (qs329.1.F rfl) (qs329.1.F rfl) (qs329.1.F rfl) (qs329.1.F rfl) (qs329.1.F rfl) (qs329.1.F rfl) (qs329.1.F rfl) (qs329.1.F rfl) (qs329.1.F rfl) (fun i => qs329.1.A (f := 26) (by decide) rfl) (qs329.1.FG g0 rfl) (qs329.1.FG g0 rfl) (qs329.1.FG g0 rfl) (qs329.1.FG g0 rfl) (qs329.1.FG g0 rfl) (fz_keep qs329.1 rfl) (RG.keep (c0 := 0) qs329.1 rfl rfl rfl rfl rfl rfl rfl rfl rfl rfl rfl rfl rfl rfl rfl rfl rfl rfl) qs329.2
                                    refine z_aload_n hC (pc := 332) 1 dX14_readOptions_332 rfl rfl ?_
                                    obtain ⟨p108, h⟩ := h
                                    refine y_callVi hC (pc := 333) (As := []) (kX14_here l G κ s329  Ws329  p108) dmX14_here zf14 rOb_0 dX14_readOptions_333 zw3099 rfl rfl (Nat.le_of_ble_eq_true rfl) (Nat.le_of_ble_eq_true rfl) (by omega) (by omega) (Nat.le_of_ble_eq_true rfl) (kk := fun v333 s333 hv333 Ws333 qs333 => ?_)
                                    obtain ⟨es333, qs333⟩ := qs333
                                    have es333 := es333.symm
                                    subst es333
                                    have h := h v333 hv333 qs333
                                    refine z_bipush hC (pc := 336) (v := Int32.ofInt 44) dX14_readOptions_336 (by decide) ?_
                                    obtain ⟨hT, hF⟩ := h
                                    refine y_icmp_ne hC (pc := 338) 345 hv333 (r_lit rfl) dX14_readOptions_338 (by decide) (fun c => ?_) (fun c => ?_)
                                    · have h := hT c
                                      refine z_iconst hC (pc := 345) (v := Int32.ofInt 0) dX14_readOptions_345 (by decide) ?_
                                      refine z_istore_n hC (pc := 346) (lv' := [(3, iv 0), (2, iv y325_5), (0, .ref (κ 0)), (1, iv x1), (5, iv y325_5)]) dX14_readOptions_346 rfl (by decide) rfl ?_
                                      refine z_goto hC (pc := 347) 25 dX14_readOptions_347 (by decide) ?_
                                      refine z_lvs [2, 3, 1, 0] rfl ?_
                                      obtain ⟨hI, hm⟩ := h
                                      exact ih25 s329 y325_5 0 Ws329 hy325_5 (r_lit rfl) (rKeep.tr (rKeep.tr rKeep.rf kJ rfl rfl rfl rfl rfl) qs329.1 rfl rfl rfl rfl rfl) hI (by omega)
                                    · have h := hF c
                                      refine z_iconst hC (pc := 341) (v := Int32.ofInt 1) dX14_readOptions_341 (by decide) ?_
                                      refine z_goto hC (pc := 342) 346 dX14_readOptions_342 (by decide) ?_
                                      refine z_istore_n hC (pc := 346) (lv' := [(3, iv 1), (2, iv y325_5), (0, .ref (κ 0)), (1, iv x1), (5, iv y325_5)]) dX14_readOptions_346 rfl (by decide) rfl ?_
                                      refine z_goto hC (pc := 347) 25 dX14_readOptions_347 (by decide) ?_
                                      refine z_lvs [2, 3, 1, 0] rfl ?_
                                      obtain ⟨hI, hm⟩ := h
                                      exact ih25 s329 y325_5 1 Ws329 hy325_5 (r_lit rfl) (rKeep.tr (rKeep.tr rKeep.rf kJ rfl rfl rfl rfl rfl) qs329.1 rfl rfl rfl rfl rfl) hI (by omega)
                                  obtain ⟨hT, hF⟩ := h
                                  refine y_if_ne hC (pc := 297) 314 hy199_2 dX14_readOptions_297 (by decide) (fun c => ?_) (fun c => ?_)
                                  · have h := hT c
                                    refine z_aload_n hC (pc := 314) 1 dX14_readOptions_314 rfl rfl ?_
                                    refine y_get hC (pc := 315) zf14 rOb_0 7 (v := .ref (κ (rR σ 7))) dX14_readOptions_315 zw2475 (rv_g rfl ((qs242.1.R rfl).trans ((qs217.1.R rfl).trans (kJ.R rfl))) g0) (kk := ?_)
                                    refine y_getN hC (pc := 318) zf13 (rOb_k g0) 5 (v := .ref (κ (1000 * ((rR σ 7) + 1) + 5))) dX14_readOptions_318 zw2320 (rv_c rfl) (kk := ?_)
                                    refine z_iload_n hC (pc := 321) 3 dX14_readOptions_321 rfl rfl ?_
                                    refine z_iload hC (pc := 322) 0 dX14_readOptions_322 rfl ?_
                                    obtain ⟨b109, h⟩ := h
                                    refine y_iast hC (pc := 324) (rAr_k g0 rfl rfl) dX14_readOptions_324 b109 (v := v217) (kk := ?_)
                                    have W110 := Ws242.sA (p := (1000 * ((rR σ 7) + 1) + 5)) (i := y199_2) (x := v217) hv217
                                    refine z_lvs [1, 2, 0] rfl ?_
                                    exact j325 (sT s242 (rR σ 7) 5 y199_2 v217) v217 W110 hv217 (rKeep.tr (rKeep.tr (rKeep.tr (rKeep.tr (rKeep.tr rKeep.rf kJ rfl rfl rfl rfl rfl) qs217.1 rfl rfl rfl rfl rfl) (rKeep.sF0 (f := 29)) rfl rfl rfl rfl rfl) qs242.1 rfl rfl rfl rfl rfl) (rKeep.sAk (f := 5) g0 (by decide)) rfl rfl rfl rfl rfl) h
                                  · have h := hF c
                                    refine z_aload_n hC (pc := 300) 1 dX14_readOptions_300 rfl rfl ?_
                                    refine y_get hC (pc := 301) zf14 rOb_0 7 (v := .ref (κ (rR σ 7))) dX14_readOptions_301 zw2475 (rv_g rfl ((qs242.1.R rfl).trans ((qs217.1.R rfl).trans (kJ.R rfl))) g0) (kk := ?_)
                                    refine y_getN hC (pc := 304) zf13 (rOb_k g0) 2 (v := .ref (κ (1000 * ((rR σ 7) + 1) + 2))) dX14_readOptions_304 zw2314 (rv_c rfl) (kk := ?_)
                                    refine z_iload_n hC (pc := 307) 2 dX14_readOptions_307 rfl rfl ?_
                                    refine z_iload hC (pc := 308) 0 dX14_readOptions_308 rfl ?_
                                    obtain ⟨b111, h⟩ := h
                                    refine y_iast hC (pc := 310) (rAr_k g0 rfl rfl) dX14_readOptions_310 b111 (v := v217) (kk := ?_)
                                    have W112 := Ws242.sA (p := (1000 * ((rR σ 7) + 1) + 2)) (i := x1) (x := v217) hv217
                                    refine z_goto hC (pc := 311) 325 dX14_readOptions_311 (by decide) ?_
                                    refine z_lvs [1, 2, 0] rfl ?_
                                    exact j325 (sT s242 (rR σ 7) 2 x1 v217) v217 W112 hv217 (rKeep.tr (rKeep.tr (rKeep.tr (rKeep.tr (rKeep.tr rKeep.rf kJ rfl rfl rfl rfl rfl) qs217.1 rfl rfl rfl rfl rfl) (rKeep.sF0 (f := 29)) rfl rfl rfl rfl rfl) qs242.1 rfl rfl rfl rfl rfl) (rKeep.sAk (f := 2) g0 (by decide)) rfl rfl rfl rfl rfl) h
                                · have h := hF c
                                  refine z_aload_n hC (pc := 287) 1 dX14_readOptions_287 rfl rfl ?_
                                  refine z_iconst hC (pc := 288) (v := Int32.ofInt 1) dX14_readOptions_288 (by decide) ?_
                                  refine z_aload_n hC (pc := 289) 1 dX14_readOptions_289 rfl rfl ?_
                                  obtain ⟨p113, h⟩ := h
                                  refine y_callVi hC (pc := 290) (As := []) (kX14_place l G κ s242  Ws242  p113) dmX14_place zf14 rOb_0 dX14_readOptions_290 zw3103 rfl rfl (Nat.le_of_ble_eq_true rfl) (Nat.le_of_ble_eq_true rfl) (by omega) (by omega) (Nat.le_of_ble_eq_true rfl) (kk := fun v290 s290 hv290 Ws290 qs290 => ?_)
                                  obtain ⟨es290, qs290⟩ := qs290
                                  have es290 := es290.symm
                                  subst es290
                                  have h := h v290 hv290 qs290
                                  obtain ⟨p114, h⟩ := h
                                  refine y_callVv hC (pc := 293) (As := [iv 1, iv v290]) (kX14_bad l G κ s242 1 v290 Ws242 (r_lit rfl) hv290 p114) dmX14_bad zf14 rOb_0 dX14_readOptions_293 zw3000 rfl rfl (Nat.le_of_ble_eq_true rfl) (Nat.le_of_ble_eq_true rfl) (by omega) (by omega) (Nat.le_of_ble_eq_true rfl) (kk := fun s293 Ws293 qs293 => ?_)
                                  have h := h s293 Ws293 (rNMp.keep qs293.1 rfl rfl rfl rfl rfl) (TPRp.keep qs293.1 rfl rfl rfl) (WNp.keep qs293.1 rfl rfl rfl rfl rfl) (PNp.keep qs293.1 rfl rfl rfl rfl rfl) (CCp.keep qs293.1 rfl rfl rfl rfl rfl rfl rfl) (qs293.1.R rfl) (qs293.1.F rfl) (qs293.1.F rfl) (qs293.1.F rfl) (qs293.1.F rfl) (qs293.1.F rfl) (qs293.1.F rfl) (qs293.1.F rfl) (qs293.1.F rfl) (qs293.1.F rfl) (qs293.1.F rfl) (fun i => qs293.1.A (f := 26) (by decide) rfl) (qs293.1.FG g0 rfl) (qs293.1.FG g0 rfl) (qs293.1.FG g0 rfl) (qs293.1.FG g0 rfl) (qs293.1.FG g0 rfl) (RG.keep (c0 := 0) qs293.1 rfl rfl rfl rfl rfl rfl rfl rfl rfl rfl rfl rfl rfl rfl rfl rfl rfl rfl) qs293.2
                                  refine z_iload_n hC (pc := 296) 3 dX14_readOptions_296 rfl rfl ?_
                                  have j325 : ∀ (s325 : rS) (y325_5 : Int), rWF s325 → rng y325_5 → rKeep 0x6c0a3001c00 0x4100001280 0x13c00000000 0x3ee0000d7f 0 σ s325 → inv_X14_readOptions_325 σ x1 gg g (mu_X14_readOptions_25 σ x1 gg g s25 y25_2 y25_3) s325 y325_5 → zS X G 6 (rW G κ s325) [(0, .ref (κ 0)), (1, iv x1), (5, iv y325_5)] 0 0 325 [] := by
                                    intro s325 y325_5 Ws325 hy325_5 kJ hI
                                    have h := h_325 (mu_X14_readOptions_25 σ x1 gg g s25 y25_2 y25_3) s325 y325_5 Ws325 hy325_5 (TPRp.keep kJ rfl rfl rfl) (CCp.keep kJ rfl rfl rfl rfl rfl rfl rfl) (kJ.R rfl) (kJ.F rfl) (kJ.F rfl) (kJ.F rfl) (kJ.F rfl) (kJ.F rfl) (kJ.F rfl) (fun i => kJ.A (f := 26) (by decide) rfl) hI
                                    refine z_iload hC (pc := 325) 2 dX14_readOptions_325 rfl ?_
                                    refine z_istore_n hC (pc := 327) (lv' := [(2, iv y325_5), (0, .ref (κ 0)), (1, iv x1), (5, iv y325_5)]) dX14_readOptions_327 rfl (by decide) rfl ?_
                                    refine z_aload_n hC (pc := 328) 1 dX14_readOptions_328 rfl rfl ?_
                                    obtain ⟨p115, h⟩ := h
                                    refine y_callVv hC (pc := 329) (As := []) (kX14_blanks l G κ s325  Ws325  p115) dmX14_blanks zf14 rOb_0 dX14_readOptions_329 zw3119 rfl rfl (Nat.le_of_ble_eq_true rfl) (Nat.le_of_ble_eq_true rfl) (by omega) (by omega) (Nat.le_of_ble_eq_true rfl) (kk := fun s329 Ws329 qs329 => ?_)
                                    have h := h s329 Ws329 (rNMp.keep qs329.1 rfl rfl rfl rfl rfl) (TPRp.keep qs329.1 rfl rfl rfl) (WNp.keep qs329.1 rfl rfl rfl rfl rfl) (PNp.keep qs329.1 rfl rfl rfl rfl rfl) (CCp.keep qs329.1 rfl rfl rfl rfl rfl rfl rfl) (qs329.1.R rfl) (qs329.1.F rfl) (qs329.1.F rfl) (qs329.1.F rfl) (qs329.1.F rfl) (qs329.1.F rfl) (qs329.1.F rfl) (qs329.1.F rfl) (qs329.1.F rfl) (qs329.1.F rfl) (qs329.1.F rfl) (fun i => qs329.1.A (f := 26) (by decide) rfl) (qs329.1.FG g0 rfl) (qs329.1.FG g0 rfl) (qs329.1.FG g0 rfl) (qs329.1.FG g0 rfl) (qs329.1.FG g0 rfl) (fz_keep qs329.1 rfl) (RG.keep (c0 := 0) qs329.1 rfl rfl rfl rfl rfl rfl rfl rfl rfl rfl rfl rfl rfl rfl rfl rfl rfl rfl) qs329.2
                                    refine z_aload_n hC (pc := 332) 1 dX14_readOptions_332 rfl rfl ?_
                                    obtain ⟨p116, h⟩ := h
                                    refine y_callVi hC (pc := 333) (As := []) (kX14_here l G κ s329  Ws329  p116) dmX14_here zf14 rOb_0 dX14_readOptions_333 zw3099 rfl rfl (Nat.le_of_ble_eq_true rfl) (Nat.le_of_ble_eq_true rfl) (by omega) (by omega) (Nat.le_of_ble_eq_true rfl) (kk := fun v333 s333 hv333 Ws333 qs333 => ?_)
                                    obtain ⟨es333, qs333⟩ := qs333
                                    have es333 := es333.symm
                                    subst es333
                                    have h := h v333 hv333 qs333
                                    refine z_bipush hC (pc := 336) (v := Int32.ofInt 44) dX14_readOptions_336 (by decide) ?_
                                    obtain ⟨hT, hF⟩ := h
                                    refine y_icmp_ne hC (pc := 338) 345 hv333 (r_lit rfl) dX14_readOptions_338 (by decide) (fun c => ?_) (fun c => ?_)
                                    · have h := hT c
                                      refine z_iconst hC (pc := 345) (v := Int32.ofInt 0) dX14_readOptions_345 (by decide) ?_
                                      refine z_istore_n hC (pc := 346) (lv' := [(3, iv 0), (2, iv y325_5), (0, .ref (κ 0)), (1, iv x1), (5, iv y325_5)]) dX14_readOptions_346 rfl (by decide) rfl ?_
                                      refine z_goto hC (pc := 347) 25 dX14_readOptions_347 (by decide) ?_
                                      refine z_lvs [2, 3, 1, 0] rfl ?_
                                      obtain ⟨hI, hm⟩ := h
                                      exact ih25 s329 y325_5 0 Ws329 hy325_5 (r_lit rfl) (rKeep.tr (rKeep.tr rKeep.rf kJ rfl rfl rfl rfl rfl) qs329.1 rfl rfl rfl rfl rfl) hI (by omega)
                                    · have h := hF c
                                      refine z_iconst hC (pc := 341) (v := Int32.ofInt 1) dX14_readOptions_341 (by decide) ?_
                                      refine z_goto hC (pc := 342) 346 dX14_readOptions_342 (by decide) ?_
                                      refine z_istore_n hC (pc := 346) (lv' := [(3, iv 1), (2, iv y325_5), (0, .ref (κ 0)), (1, iv x1), (5, iv y325_5)]) dX14_readOptions_346 rfl (by decide) rfl ?_
                                      refine z_goto hC (pc := 347) 25 dX14_readOptions_347 (by decide) ?_
                                      refine z_lvs [2, 3, 1, 0] rfl ?_
                                      obtain ⟨hI, hm⟩ := h
                                      exact ih25 s329 y325_5 1 Ws329 hy325_5 (r_lit rfl) (rKeep.tr (rKeep.tr rKeep.rf kJ rfl rfl rfl rfl rfl) qs329.1 rfl rfl rfl rfl rfl) hI (by omega)
                                  obtain ⟨hT, hF⟩ := h
                                  refine y_if_ne hC (pc := 297) 314 hy199_2 dX14_readOptions_297 (by decide) (fun c => ?_) (fun c => ?_)
                                  · have h := hT c
                                    refine z_aload_n hC (pc := 314) 1 dX14_readOptions_314 rfl rfl ?_
                                    refine y_get hC (pc := 315) zf14 rOb_0 7 (v := .ref (κ (rR σ 7))) dX14_readOptions_315 zw2475 (rv_g rfl ((qs293.1.R rfl).trans ((qs242.1.R rfl).trans ((qs217.1.R rfl).trans (kJ.R rfl)))) g0) (kk := ?_)
                                    refine y_getN hC (pc := 318) zf13 (rOb_k g0) 5 (v := .ref (κ (1000 * ((rR σ 7) + 1) + 5))) dX14_readOptions_318 zw2320 (rv_c rfl) (kk := ?_)
                                    refine z_iload_n hC (pc := 321) 3 dX14_readOptions_321 rfl rfl ?_
                                    refine z_iload hC (pc := 322) 0 dX14_readOptions_322 rfl ?_
                                    obtain ⟨b117, h⟩ := h
                                    refine y_iast hC (pc := 324) (rAr_k g0 rfl rfl) dX14_readOptions_324 b117 (v := v217) (kk := ?_)
                                    have W118 := Ws293.sA (p := (1000 * ((rR σ 7) + 1) + 5)) (i := y199_2) (x := v217) hv217
                                    refine z_lvs [1, 2, 0] rfl ?_
                                    exact j325 (sT s293 (rR σ 7) 5 y199_2 v217) v217 W118 hv217 (rKeep.tr (rKeep.tr (rKeep.tr (rKeep.tr (rKeep.tr (rKeep.tr rKeep.rf kJ rfl rfl rfl rfl rfl) qs217.1 rfl rfl rfl rfl rfl) (rKeep.sF0 (f := 29)) rfl rfl rfl rfl rfl) qs242.1 rfl rfl rfl rfl rfl) qs293.1 rfl rfl rfl rfl rfl) (rKeep.sAk (f := 5) g0 (by decide)) rfl rfl rfl rfl rfl) h
                                  · have h := hF c
                                    refine z_aload_n hC (pc := 300) 1 dX14_readOptions_300 rfl rfl ?_
                                    refine y_get hC (pc := 301) zf14 rOb_0 7 (v := .ref (κ (rR σ 7))) dX14_readOptions_301 zw2475 (rv_g rfl ((qs293.1.R rfl).trans ((qs242.1.R rfl).trans ((qs217.1.R rfl).trans (kJ.R rfl)))) g0) (kk := ?_)
                                    refine y_getN hC (pc := 304) zf13 (rOb_k g0) 2 (v := .ref (κ (1000 * ((rR σ 7) + 1) + 2))) dX14_readOptions_304 zw2314 (rv_c rfl) (kk := ?_)
                                    refine z_iload_n hC (pc := 307) 2 dX14_readOptions_307 rfl rfl ?_
                                    refine z_iload hC (pc := 308) 0 dX14_readOptions_308 rfl ?_
                                    obtain ⟨b119, h⟩ := h
                                    refine y_iast hC (pc := 310) (rAr_k g0 rfl rfl) dX14_readOptions_310 b119 (v := v217) (kk := ?_)
                                    have W120 := Ws293.sA (p := (1000 * ((rR σ 7) + 1) + 2)) (i := x1) (x := v217) hv217
                                    refine z_goto hC (pc := 311) 325 dX14_readOptions_311 (by decide) ?_
                                    refine z_lvs [1, 2, 0] rfl ?_
                                    exact j325 (sT s293 (rR σ 7) 2 x1 v217) v217 W120 hv217 (rKeep.tr (rKeep.tr (rKeep.tr (rKeep.tr (rKeep.tr (rKeep.tr rKeep.rf kJ rfl rfl rfl rfl rfl) qs217.1 rfl rfl rfl rfl rfl) (rKeep.sF0 (f := 29)) rfl rfl rfl rfl rfl) qs242.1 rfl rfl rfl rfl rfl) qs293.1 rfl rfl rfl rfl rfl) (rKeep.sAk (f := 2) g0 (by decide)) rfl rfl rfl rfl rfl) h
                              · have h := hF c
                                refine z_aload_n hC (pc := 254) 1 dX14_readOptions_254 rfl rfl ?_
                                refine z_dup hC (pc := 255) dX14_readOptions_255 rfl ?_
                                refine y_get hC (pc := 256) zf14 rOb_0 29 (v := iv (rF s242 0 29)) dX14_readOptions_256 zw2496 (rv_i (Or.inl rfl) rfl) (kk := ?_)
                                have h := h (Ws242.f _ _)
                                refine z_iconst hC (pc := 259) (v := Int32.ofInt 1) dX14_readOptions_259 (by decide) ?_
                                refine y_iadd hC (pc := 260) (v := ((rF s242 0 29) + 1)) dX14_readOptions_260 rfl ?_
                                obtain ⟨r121, h⟩ := h
                                refine y_putI hC (pc := 261) zf14 rOb_0 29 (x := ((rF s242 0 29) + 1)) dX14_readOptions_261 zw2496 (Or.inl rfl) rfl rfl (kk := ?_)
                                have W122 := Ws242.sF (q := 0) (f := 29) (x := ((rF s242 0 29) + 1)) r121
                                refine z_aload_n hC (pc := 264) 1 dX14_readOptions_264 rfl rfl ?_
                                refine y_get hC (pc := 265) zf14 rOb_0 7 (v := .ref (κ (rR σ 7))) dX14_readOptions_265 zw2475 (rv_g rfl ((qs242.1.R rfl).trans ((qs217.1.R rfl).trans (kJ.R rfl))) g0) (kk := ?_)
                                refine y_getN hC (pc := 268) zf13 (rOb_k g0) 2 (v := .ref (κ (1000 * ((rR σ 7) + 1) + 2))) dX14_readOptions_268 zw2314 (rv_c rfl) (kk := ?_)
                                refine z_iload hC (pc := 271) 0 dX14_readOptions_271 rfl ?_
                                refine z_aload_n hC (pc := 273) 1 dX14_readOptions_273 rfl rfl ?_
                                obtain ⟨g123, h⟩ := h
                                obtain ⟨p124, h⟩ := h
                                obtain ⟨p125, h⟩ := h
                                refine y_callVi hC (pc := 274) (As := []) (qX14_readArg ih (sF s242 0 29 ((rF s242 0 29) + 1)) gg g123 W122  p124 p125) dmX14_readArg zf14 rOb_0 dX14_readOptions_274 zw3234 rfl rfl (Nat.le_of_ble_eq_true rfl) (Nat.le_of_ble_eq_true rfl) (by omega) (by omega) (Nat.le_of_ble_eq_true rfl) (kk := fun v274 s274 hv274 Ws274 qs274 => ?_)
                                have h := h v274 s274 hv274 Ws274 (TPRp.keep qs274.1 rfl rfl rfl) (CCp.keep qs274.1 rfl rfl rfl rfl rfl rfl rfl) (qs274.1.R rfl) (qs274.1.F rfl) (qs274.1.F rfl) (qs274.1.F rfl) (qs274.1.F rfl) (qs274.1.F rfl) (qs274.1.F rfl) (fun i => qs274.1.A (f := 26) (by decide) rfl) qs274.2
                                obtain ⟨b126, h⟩ := h
                                refine y_iast hC (pc := 277) (rAr_k g0 rfl rfl) dX14_readOptions_277 b126 (v := v274) (kk := ?_)
                                have W127 := Ws274.sA (p := (1000 * ((rR σ 7) + 1) + 2)) (i := v217) (x := v274) hv274
                                refine z_goto hC (pc := 278) 296 dX14_readOptions_278 (by decide) ?_
                                refine z_iload_n hC (pc := 296) 3 dX14_readOptions_296 rfl rfl ?_
                                have j325 : ∀ (s325 : rS) (y325_5 : Int), rWF s325 → rng y325_5 → rKeep 0x6c0a3001c00 0x4100001280 0x13c00000000 0x3ee0000d7f 0 σ s325 → inv_X14_readOptions_325 σ x1 gg g (mu_X14_readOptions_25 σ x1 gg g s25 y25_2 y25_3) s325 y325_5 → zS X G 6 (rW G κ s325) [(0, .ref (κ 0)), (1, iv x1), (5, iv y325_5)] 0 0 325 [] := by
                                  intro s325 y325_5 Ws325 hy325_5 kJ hI
                                  have h := h_325 (mu_X14_readOptions_25 σ x1 gg g s25 y25_2 y25_3) s325 y325_5 Ws325 hy325_5 (TPRp.keep kJ rfl rfl rfl) (CCp.keep kJ rfl rfl rfl rfl rfl rfl rfl) (kJ.R rfl) (kJ.F rfl) (kJ.F rfl) (kJ.F rfl) (kJ.F rfl) (kJ.F rfl) (kJ.F rfl) (fun i => kJ.A (f := 26) (by decide) rfl) hI
                                  refine z_iload hC (pc := 325) 2 dX14_readOptions_325 rfl ?_
                                  refine z_istore_n hC (pc := 327) (lv' := [(2, iv y325_5), (0, .ref (κ 0)), (1, iv x1), (5, iv y325_5)]) dX14_readOptions_327 rfl (by decide) rfl ?_
                                  refine z_aload_n hC (pc := 328) 1 dX14_readOptions_328 rfl rfl ?_
                                  obtain ⟨p128, h⟩ := h
                                  refine y_callVv hC (pc := 329) (As := []) (kX14_blanks l G κ s325  Ws325  p128) dmX14_blanks zf14 rOb_0 dX14_readOptions_329 zw3119 rfl rfl (Nat.le_of_ble_eq_true rfl) (Nat.le_of_ble_eq_true rfl) (by omega) (by omega) (Nat.le_of_ble_eq_true rfl) (kk := fun s329 Ws329 qs329 => ?_)
                                  have h := h s329 Ws329 (rNMp.keep qs329.1 rfl rfl rfl rfl rfl) (TPRp.keep qs329.1 rfl rfl rfl) (WNp.keep qs329.1 rfl rfl rfl rfl rfl) (PNp.keep qs329.1 rfl rfl rfl rfl rfl) (CCp.keep qs329.1 rfl rfl rfl rfl rfl rfl rfl) (qs329.1.R rfl) (qs329.1.F rfl) (qs329.1.F rfl) (qs329.1.F rfl) (qs329.1.F rfl) (qs329.1.F rfl) (qs329.1.F rfl) (qs329.1.F rfl) (qs329.1.F rfl) (qs329.1.F rfl) (qs329.1.F rfl) (fun i => qs329.1.A (f := 26) (by decide) rfl) (qs329.1.FG g0 rfl) (qs329.1.FG g0 rfl) (qs329.1.FG g0 rfl) (qs329.1.FG g0 rfl) (qs329.1.FG g0 rfl) (fz_keep qs329.1 rfl) (RG.keep (c0 := 0) qs329.1 rfl rfl rfl rfl rfl rfl rfl rfl rfl rfl rfl rfl rfl rfl rfl rfl rfl rfl) qs329.2
                                  refine z_aload_n hC (pc := 332) 1 dX14_readOptions_332 rfl rfl ?_
                                  obtain ⟨p129, h⟩ := h
                                  refine y_callVi hC (pc := 333) (As := []) (kX14_here l G κ s329  Ws329  p129) dmX14_here zf14 rOb_0 dX14_readOptions_333 zw3099 rfl rfl (Nat.le_of_ble_eq_true rfl) (Nat.le_of_ble_eq_true rfl) (by omega) (by omega) (Nat.le_of_ble_eq_true rfl) (kk := fun v333 s333 hv333 Ws333 qs333 => ?_)
                                  obtain ⟨es333, qs333⟩ := qs333
                                  have es333 := es333.symm
                                  subst es333
                                  have h := h v333 hv333 qs333
                                  refine z_bipush hC (pc := 336) (v := Int32.ofInt 44) dX14_readOptions_336 (by decide) ?_
                                  obtain ⟨hT, hF⟩ := h
                                  refine y_icmp_ne hC (pc := 338) 345 hv333 (r_lit rfl) dX14_readOptions_338 (by decide) (fun c => ?_) (fun c => ?_)
                                  · have h := hT c
                                    refine z_iconst hC (pc := 345) (v := Int32.ofInt 0) dX14_readOptions_345 (by decide) ?_
                                    refine z_istore_n hC (pc := 346) (lv' := [(3, iv 0), (2, iv y325_5), (0, .ref (κ 0)), (1, iv x1), (5, iv y325_5)]) dX14_readOptions_346 rfl (by decide) rfl ?_
                                    refine z_goto hC (pc := 347) 25 dX14_readOptions_347 (by decide) ?_
                                    refine z_lvs [2, 3, 1, 0] rfl ?_
                                    obtain ⟨hI, hm⟩ := h
                                    exact ih25 s329 y325_5 0 Ws329 hy325_5 (r_lit rfl) (rKeep.tr (rKeep.tr rKeep.rf kJ rfl rfl rfl rfl rfl) qs329.1 rfl rfl rfl rfl rfl) hI (by omega)
                                  · have h := hF c
                                    refine z_iconst hC (pc := 341) (v := Int32.ofInt 1) dX14_readOptions_341 (by decide) ?_
                                    refine z_goto hC (pc := 342) 346 dX14_readOptions_342 (by decide) ?_
                                    refine z_istore_n hC (pc := 346) (lv' := [(3, iv 1), (2, iv y325_5), (0, .ref (κ 0)), (1, iv x1), (5, iv y325_5)]) dX14_readOptions_346 rfl (by decide) rfl ?_
                                    refine z_goto hC (pc := 347) 25 dX14_readOptions_347 (by decide) ?_
                                    refine z_lvs [2, 3, 1, 0] rfl ?_
                                    obtain ⟨hI, hm⟩ := h
                                    exact ih25 s329 y325_5 1 Ws329 hy325_5 (r_lit rfl) (rKeep.tr (rKeep.tr rKeep.rf kJ rfl rfl rfl rfl rfl) qs329.1 rfl rfl rfl rfl rfl) hI (by omega)
                                obtain ⟨hT, hF⟩ := h
                                refine y_if_ne hC (pc := 297) 314 hy199_2 dX14_readOptions_297 (by decide) (fun c => ?_) (fun c => ?_)
                                · have h := hT c
                                  refine z_aload_n hC (pc := 314) 1 dX14_readOptions_314 rfl rfl ?_
                                  refine y_get hC (pc := 315) zf14 rOb_0 7 (v := .ref (κ (rR σ 7))) dX14_readOptions_315 zw2475 (rv_g rfl ((qs274.1.R rfl).trans ((qs242.1.R rfl).trans ((qs217.1.R rfl).trans (kJ.R rfl)))) g0) (kk := ?_)
                                  refine y_getN hC (pc := 318) zf13 (rOb_k g0) 5 (v := .ref (κ (1000 * ((rR σ 7) + 1) + 5))) dX14_readOptions_318 zw2320 (rv_c rfl) (kk := ?_)
                                  refine z_iload_n hC (pc := 321) 3 dX14_readOptions_321 rfl rfl ?_
                                  refine z_iload hC (pc := 322) 0 dX14_readOptions_322 rfl ?_
                                  obtain ⟨b130, h⟩ := h
                                  refine y_iast hC (pc := 324) (rAr_k g0 rfl rfl) dX14_readOptions_324 b130 (v := v217) (kk := ?_)
                                  have W131 := W127.sA (p := (1000 * ((rR σ 7) + 1) + 5)) (i := y199_2) (x := v217) hv217
                                  refine z_lvs [1, 2, 0] rfl ?_
                                  exact j325 (sT (sT s274 (rR σ 7) 2 v217 v274) (rR σ 7) 5 y199_2 v217) v217 W131 hv217 (rKeep.tr (rKeep.tr (rKeep.tr (rKeep.tr (rKeep.tr (rKeep.tr (rKeep.tr (rKeep.tr rKeep.rf kJ rfl rfl rfl rfl rfl) qs217.1 rfl rfl rfl rfl rfl) (rKeep.sF0 (f := 29)) rfl rfl rfl rfl rfl) qs242.1 rfl rfl rfl rfl rfl) (rKeep.sF0 (f := 29)) rfl rfl rfl rfl rfl) qs274.1 rfl rfl rfl rfl rfl) (rKeep.sAk (f := 2) g0 (by decide)) rfl rfl rfl rfl rfl) (rKeep.sAk (f := 5) g0 (by decide)) rfl rfl rfl rfl rfl) h
                                · have h := hF c
                                  refine z_aload_n hC (pc := 300) 1 dX14_readOptions_300 rfl rfl ?_
                                  refine y_get hC (pc := 301) zf14 rOb_0 7 (v := .ref (κ (rR σ 7))) dX14_readOptions_301 zw2475 (rv_g rfl ((qs274.1.R rfl).trans ((qs242.1.R rfl).trans ((qs217.1.R rfl).trans (kJ.R rfl)))) g0) (kk := ?_)
                                  refine y_getN hC (pc := 304) zf13 (rOb_k g0) 2 (v := .ref (κ (1000 * ((rR σ 7) + 1) + 2))) dX14_readOptions_304 zw2314 (rv_c rfl) (kk := ?_)
                                  refine z_iload_n hC (pc := 307) 2 dX14_readOptions_307 rfl rfl ?_
                                  refine z_iload hC (pc := 308) 0 dX14_readOptions_308 rfl ?_
                                  obtain ⟨b132, h⟩ := h
                                  refine y_iast hC (pc := 310) (rAr_k g0 rfl rfl) dX14_readOptions_310 b132 (v := v217) (kk := ?_)
                                  have W133 := W127.sA (p := (1000 * ((rR σ 7) + 1) + 2)) (i := x1) (x := v217) hv217
                                  refine z_goto hC (pc := 311) 325 dX14_readOptions_311 (by decide) ?_
                                  refine z_lvs [1, 2, 0] rfl ?_
                                  exact j325 (sT (sT s274 (rR σ 7) 2 v217 v274) (rR σ 7) 2 x1 v217) v217 W133 hv217 (rKeep.tr (rKeep.tr (rKeep.tr (rKeep.tr (rKeep.tr (rKeep.tr (rKeep.tr (rKeep.tr rKeep.rf kJ rfl rfl rfl rfl rfl) qs217.1 rfl rfl rfl rfl rfl) (rKeep.sF0 (f := 29)) rfl rfl rfl rfl rfl) qs242.1 rfl rfl rfl rfl rfl) (rKeep.sF0 (f := 29)) rfl rfl rfl rfl rfl) qs274.1 rfl rfl rfl rfl rfl) (rKeep.sAk (f := 2) g0 (by decide)) rfl rfl rfl rfl rfl) (rKeep.sAk (f := 2) g0 (by decide)) rfl rfl rfl rfl rfl) h
                            · have h := hF c
                              exact y_retv hR dX14_readOptions_206 Ws199 (Nat.le_of_ble_eq_true rfl) (Nat.le_of_ble_eq_true rfl) ⟨(rKeep.tr rKeep.rf kJ rfl rfl rfl rfl rfl), h⟩
                          obtain ⟨hT, hF⟩ := h
                          refine y_if_eq hC (pc := 150) 199 hy148_5 dX14_readOptions_150 (by decide) (fun c => ?_) (fun c => ?_)
                          · have h := hT c
                            refine z_lvs [0, 1, 2, 3] rfl ?_
                            exact j199 s148 y148_2 y148_4 Ws148 hy148_2 hy148_4 (rKeep.tr rKeep.rf kJ rfl rfl rfl rfl rfl) h
                          · have h := hF c
                            refine z_aload_n hC (pc := 153) 0 dX14_readOptions_153 rfl rfl ?_
                            refine y_get hC (pc := 154) zf14 rOb_0 10 (v := iv (rF s148 0 10)) dX14_readOptions_154 zw2478 (rv_i (Or.inl rfl) rfl) (kk := ?_)
                            have h := h (Ws148.f _ _)
                            obtain ⟨hT, hF⟩ := h
                            refine y_if_ne hC (pc := 157) 199 (Ws148.f _ _) dX14_readOptions_157 (by decide) (fun c => ?_) (fun c => ?_)
                            · have h := hT c
                              refine z_lvs [0, 1, 2, 3] rfl ?_
                              exact j199 s148 y148_2 y148_4 Ws148 hy148_2 hy148_4 (rKeep.tr rKeep.rf kJ rfl rfl rfl rfl rfl) h
                            · have h := hF c
                              refine z_aload_n hC (pc := 160) 0 dX14_readOptions_160 rfl rfl ?_
                              refine y_get hC (pc := 161) zf14 rOb_0 7 (v := .ref (κ (rR σ 7))) dX14_readOptions_161 zw2475 (rv_g rfl (kJ.R rfl) g0) (kk := ?_)
                              refine y_getN hC (pc := 164) zf13 (rOb_k g0) 1 (v := .ref (κ (1000 * ((rR σ 7) + 1) + 1))) dX14_readOptions_164 zw2312 (rv_c rfl) (kk := ?_)
                              refine z_iload hC (pc := 167) 4 dX14_readOptions_167 rfl ?_
                              obtain ⟨b134, h⟩ := h
                              refine y_iald hC (pc := 169) (rAr_k g0 rfl rfl) dX14_readOptions_169 b134 (v := (rA s148 (1000 * ((rR σ 7) + 1) + 1) y148_5)) rfl (kk := ?_)
                              have h := h (Ws148.a _ _)
                              refine z_iload hC (pc := 170) 3 dX14_readOptions_170 rfl ?_
                              obtain ⟨hT, hF⟩ := h
                              refine y_icmp_ne hC (pc := 172) 184 (Ws148.a _ _) hy148_4 dX14_readOptions_172 (by decide) (fun c => ?_) (fun c => ?_)
                              · have h := hT c
                                refine z_aload_n hC (pc := 184) 0 dX14_readOptions_184 rfl rfl ?_
                                refine y_get hC (pc := 185) zf14 rOb_0 7 (v := .ref (κ (rR σ 7))) dX14_readOptions_185 zw2475 (rv_g rfl (kJ.R rfl) g0) (kk := ?_)
                                refine y_getN hC (pc := 188) zf13 (rOb_k g0) 5 (v := .ref (κ (1000 * ((rR σ 7) + 1) + 5))) dX14_readOptions_188 zw2320 (rv_c rfl) (kk := ?_)
                                refine z_iload hC (pc := 191) 4 dX14_readOptions_191 rfl ?_
                                obtain ⟨b135, h⟩ := h
                                refine y_iald hC (pc := 193) (rAr_k g0 rfl rfl) dX14_readOptions_193 b135 (v := (rA s148 (1000 * ((rR σ 7) + 1) + 5) y148_5)) rfl (kk := ?_)
                                have h := h (Ws148.a _ _)
                                refine z_istore hC (pc := 194) (lv' := [(5, iv (rA s148 (1000 * ((rR σ 7) + 1) + 5) y148_5)), (0, .ref (κ 0)), (1, iv x1), (2, iv y148_2), (4, iv y148_4)]) dX14_readOptions_194 (by decide) rfl ?_
                                refine z_goto hC (pc := 196) 148 dX14_readOptions_196 (by decide) ?_
                                refine z_lvs [1, 2, 3, 4, 0] rfl ?_
                                obtain ⟨hI, hm⟩ := h
                                exact ih148 s148 y148_2 y148_4 (rA s148 (1000 * ((rR σ 7) + 1) + 5) y148_5) Ws148 hy148_2 hy148_4 (Ws148.a _ _) (rKeep.tr rKeep.rf kJ rfl rfl rfl rfl rfl) hI (by omega)
                              · have h := hF c
                                refine z_aload_n hC (pc := 175) 0 dX14_readOptions_175 rfl rfl ?_
                                refine z_iconst hC (pc := 176) (v := Int32.ofInt 3) dX14_readOptions_176 (by decide) ?_
                                refine z_aload_n hC (pc := 177) 0 dX14_readOptions_177 rfl rfl ?_
                                obtain ⟨p136, h⟩ := h
                                refine y_callVi hC (pc := 178) (As := []) (kX14_place l G κ s148  Ws148  p136) dmX14_place zf14 rOb_0 dX14_readOptions_178 zw3103 rfl rfl (Nat.le_of_ble_eq_true rfl) (Nat.le_of_ble_eq_true rfl) (by omega) (by omega) (Nat.le_of_ble_eq_true rfl) (kk := fun v178 s178 hv178 Ws178 qs178 => ?_)
                                obtain ⟨es178, qs178⟩ := qs178
                                have es178 := es178.symm
                                subst es178
                                have h := h v178 hv178 qs178
                                obtain ⟨p137, h⟩ := h
                                refine y_callVv hC (pc := 181) (As := [iv 3, iv v178]) (kX14_bad l G κ s148 3 v178 Ws148 (r_lit rfl) hv178 p137) dmX14_bad zf14 rOb_0 dX14_readOptions_181 zw3000 rfl rfl (Nat.le_of_ble_eq_true rfl) (Nat.le_of_ble_eq_true rfl) (by omega) (by omega) (Nat.le_of_ble_eq_true rfl) (kk := fun s181 Ws181 qs181 => ?_)
                                have h := h s181 Ws181 (rNMp.keep qs181.1 rfl rfl rfl rfl rfl) (TPRp.keep qs181.1 rfl rfl rfl) (WNp.keep qs181.1 rfl rfl rfl rfl rfl) (PNp.keep qs181.1 rfl rfl rfl rfl rfl) (CCp.keep qs181.1 rfl rfl rfl rfl rfl rfl rfl) (qs181.1.R rfl) (qs181.1.F rfl) (qs181.1.F rfl) (qs181.1.F rfl) (qs181.1.F rfl) (qs181.1.F rfl) (qs181.1.F rfl) (qs181.1.F rfl) (qs181.1.F rfl) (qs181.1.F rfl) (qs181.1.F rfl) (fun i => qs181.1.A (f := 26) (by decide) rfl) (qs181.1.FG g0 rfl) (qs181.1.FG g0 rfl) (qs181.1.FG g0 rfl) (qs181.1.FG g0 rfl) (qs181.1.FG g0 rfl) (RG.keep (c0 := 0) qs181.1 rfl rfl rfl rfl rfl rfl rfl rfl rfl rfl rfl rfl rfl rfl rfl rfl rfl rfl) qs181.2
                                refine z_aload_n hC (pc := 184) 0 dX14_readOptions_184 rfl rfl ?_
                                refine y_get hC (pc := 185) zf14 rOb_0 7 (v := .ref (κ (rR σ 7))) dX14_readOptions_185 zw2475 (rv_g rfl ((qs181.1.R rfl).trans (kJ.R rfl)) g0) (kk := ?_)
                                refine y_getN hC (pc := 188) zf13 (rOb_k g0) 5 (v := .ref (κ (1000 * ((rR σ 7) + 1) + 5))) dX14_readOptions_188 zw2320 (rv_c rfl) (kk := ?_)
                                refine z_iload hC (pc := 191) 4 dX14_readOptions_191 rfl ?_
                                obtain ⟨b138, h⟩ := h
                                refine y_iald hC (pc := 193) (rAr_k g0 rfl rfl) dX14_readOptions_193 b138 (v := (rA s181 (1000 * ((rR σ 7) + 1) + 5) y148_5)) rfl (kk := ?_)
                                have h := h (Ws181.a _ _)
                                refine z_istore hC (pc := 194) (lv' := [(5, iv (rA s181 (1000 * ((rR σ 7) + 1) + 5) y148_5)), (0, .ref (κ 0)), (1, iv x1), (2, iv y148_2), (4, iv y148_4)]) dX14_readOptions_194 (by decide) rfl ?_
                                refine z_goto hC (pc := 196) 148 dX14_readOptions_196 (by decide) ?_
                                refine z_lvs [1, 2, 3, 4, 0] rfl ?_
                                obtain ⟨hI, hm⟩ := h
                                exact ih148 s181 y148_2 y148_4 (rA s181 (1000 * ((rR σ 7) + 1) + 5) y148_5) Ws181 hy148_2 hy148_4 (Ws181.a _ _) (rKeep.tr (rKeep.tr rKeep.rf kJ rfl rfl rfl rfl rfl) qs181.1 rfl rfl rfl rfl rfl) hI (by omega)
                      refine z_lvs [2, 3, 4, 1, 0] rfl ?_
                      exact j148 _ s47 y25_2 3 (rA s47 (1000 * ((rR σ 7) + 1) + 2) x1) Ws47 hy25_2 (r_lit rfl) (Ws47.a _ _) (rKeep.tr (rKeep.tr (rKeep.tr rKeep.rf kJ rfl rfl rfl rfl rfl) (rKeep.sF0 (f := 29)) rfl rfl rfl rfl rfl) qs47.1 rfl rfl rfl rfl rfl) h (Nat.le_refl _)
                  · have h := hF c
                    refine z_iconst hC (pc := 88) (v := Int32.ofInt 2) dX14_readOptions_88 (by decide) ?_
                    refine z_goto hC (pc := 89) 121 dX14_readOptions_89 (by decide) ?_
                    refine z_istore hC (pc := 121) (lv' := [(4, iv 2), (0, .ref (κ 0)), (1, iv x1), (2, iv y25_2), (3, iv y25_3)]) dX14_readOptions_121 (by decide) rfl ?_
                    refine z_iload hC (pc := 123) 0 dX14_readOptions_123 rfl ?_
                    refine y_if_ge hC (pc := 125) 137 (r_lit rfl) dX14_readOptions_125 (by decide) (fun _ => ?_) (fun c => absurd c (by decide))
                    refine z_aload_n hC (pc := 137) 1 dX14_readOptions_137 rfl rfl ?_
                    refine y_get hC (pc := 138) zf14 rOb_0 7 (v := .ref (κ (rR σ 7))) dX14_readOptions_138 zw2475 (rv_g rfl ((qs47.1.R rfl).trans (kJ.R rfl)) g0) (kk := ?_)
                    refine y_getN hC (pc := 141) zf13 (rOb_k g0) 2 (v := .ref (κ (1000 * ((rR σ 7) + 1) + 2))) dX14_readOptions_141 zw2314 (rv_c rfl) (kk := ?_)
                    refine z_iload_n hC (pc := 144) 2 dX14_readOptions_144 rfl rfl ?_
                    obtain ⟨b139, h⟩ := h
                    refine y_iald hC (pc := 145) (rAr_k g0 rfl rfl) dX14_readOptions_145 b139 (v := (rA s47 (1000 * ((rR σ 7) + 1) + 2) x1)) rfl (kk := ?_)
                    have h := h (Ws47.a _ _)
                    refine z_istore hC (pc := 146) (lv' := [(5, iv (rA s47 (1000 * ((rR σ 7) + 1) + 2) x1)), (4, iv 2), (0, .ref (κ 0)), (1, iv x1), (2, iv y25_2), (3, iv y25_3)]) dX14_readOptions_146 (by decide) rfl ?_
                    have j148 : ∀ (d148 : Nat), ∀ (s148 : rS) (y148_2 : Int) (y148_4 : Int) (y148_5 : Int), rWF s148 → rng y148_2 → rng y148_4 → rng y148_5 → rKeep 0x6c0a3001c00 0x4100001280 0x13c00000000 0x3ee0000d7f 0 σ s148 → inv_X14_readOptions_148 σ x1 gg g (mu_X14_readOptions_25 σ x1 gg g s25 y25_2 y25_3) s148 y148_2 y148_4 y148_5 → (mu_X14_readOptions_148 σ x1 gg g s148 y148_2 y148_4 y148_5) ≤ d148 → zS X G 6 (rW G κ s148) [(0, .ref (κ 0)), (1, iv x1), (2, iv y148_2), (4, iv y148_4), (5, iv y148_5)] 0 0 148 [] := by
                      intro d148
                      induction d148 with
                      | zero =>
                        intro s148 y148_2 y148_4 y148_5 Ws148 hy148_2 hy148_4 hy148_5 kJ hI hmu
                        exact absurd hmu (by have := h_148m (mu_X14_readOptions_25 σ x1 gg g s25 y25_2 y25_3) s148 y148_2 y148_4 y148_5 Ws148 hy148_2 hy148_4 hy148_5 (TPRp.keep kJ rfl rfl rfl) (CCp.keep kJ rfl rfl rfl rfl rfl rfl rfl) (kJ.R rfl) (kJ.F rfl) (kJ.F rfl) (kJ.F rfl) (kJ.F rfl) (kJ.F rfl) (kJ.F rfl) (fun i => kJ.A (f := 26) (by decide) rfl) hI; omega)
                      | succ d148 ih148 =>
                        intro s148 y148_2 y148_4 y148_5 Ws148 hy148_2 hy148_4 hy148_5 kJ hI hmu148
                        have h := h_148 (mu_X14_readOptions_25 σ x1 gg g s25 y25_2 y25_3) s148 y148_2 y148_4 y148_5 Ws148 hy148_2 hy148_4 hy148_5 (TPRp.keep kJ rfl rfl rfl) (CCp.keep kJ rfl rfl rfl rfl rfl rfl rfl) (kJ.R rfl) (kJ.F rfl) (kJ.F rfl) (kJ.F rfl) (kJ.F rfl) (kJ.F rfl) (kJ.F rfl) (fun i => kJ.A (f := 26) (by decide) rfl) hI
                        refine z_iload hC (pc := 148) 4 dX14_readOptions_148 rfl ?_
                        have j199 : ∀ (s199 : rS) (y199_2 : Int) (y199_4 : Int), rWF s199 → rng y199_2 → rng y199_4 → rKeep 0x6c0a3001c00 0x4100001280 0x13c00000000 0x3ee0000d7f 0 σ s199 → inv_X14_readOptions_199 σ x1 gg g (mu_X14_readOptions_25 σ x1 gg g s25 y25_2 y25_3) s199 y199_2 y199_4 → zS X G 6 (rW G κ s199) [(0, .ref (κ 0)), (1, iv x1), (2, iv y199_2), (4, iv y199_4)] 0 0 199 [] := by
                          intro s199 y199_2 y199_4 Ws199 hy199_2 hy199_4 kJ hI
                          have h := h_199 (mu_X14_readOptions_25 σ x1 gg g s25 y25_2 y25_3) s199 y199_2 y199_4 Ws199 hy199_2 hy199_4 (TPRp.keep kJ rfl rfl rfl) (CCp.keep kJ rfl rfl rfl rfl rfl rfl rfl) (kJ.R rfl) (kJ.F rfl) (kJ.F rfl) (kJ.F rfl) (kJ.F rfl) (kJ.F rfl) (kJ.F rfl) (fun i => kJ.A (f := 26) (by decide) rfl) hI
                          refine z_aload_n hC (pc := 199) 0 dX14_readOptions_199 rfl rfl ?_
                          refine y_get hC (pc := 200) zf14 rOb_0 10 (v := iv (rF s199 0 10)) dX14_readOptions_200 zw2478 (rv_i (Or.inl rfl) rfl) (kk := ?_)
                          have h := h (Ws199.f _ _)
                          obtain ⟨hT, hF⟩ := h
                          refine y_if_eq hC (pc := 203) 207 (Ws199.f _ _) dX14_readOptions_203 (by decide) (fun c => ?_) (fun c => ?_)
                          · have h := hT c
                            refine z_aload_n hC (pc := 207) 0 dX14_readOptions_207 rfl rfl ?_
                            refine z_bipush hC (pc := 208) (v := Int32.ofInt 53) dX14_readOptions_208 (by decide) ?_
                            refine z_iload hC (pc := 210) 3 dX14_readOptions_210 rfl ?_
                            refine z_iconst hC (pc := 212) (v := Int32.ofInt 0) dX14_readOptions_212 (by decide) ?_
                            refine z_aload_n hC (pc := 213) 0 dX14_readOptions_213 rfl rfl ?_
                            obtain ⟨p140, h⟩ := h
                            refine y_callVi hC (pc := 214) (As := []) (kX14_place l G κ s199  Ws199  p140) dmX14_place zf14 rOb_0 dX14_readOptions_214 zw3103 rfl rfl (Nat.le_of_ble_eq_true rfl) (Nat.le_of_ble_eq_true rfl) (by omega) (by omega) (Nat.le_of_ble_eq_true rfl) (kk := fun v214 s214 hv214 Ws214 qs214 => ?_)
                            obtain ⟨es214, qs214⟩ := qs214
                            have es214 := es214.symm
                            subst es214
                            have h := h v214 hv214 qs214
                            obtain ⟨p141, h⟩ := h
                            refine y_callVi hC (pc := 217) (As := [iv 53, iv y199_4, iv 0, iv v214]) (kX14_node_t l G κ s199 53 y199_4 0 v214 gg Ws199 (r_lit rfl) hy199_4 (r_lit rfl) hv214 p141) dmX14_node zf14 rOb_0 dX14_readOptions_217 zw3170 rfl rfl (Nat.le_of_ble_eq_true rfl) (Nat.le_of_ble_eq_true rfl) (by omega) (by omega) (Nat.le_of_ble_eq_true rfl) (kk := fun v217 s217 hv217 Ws217 qs217 => ?_)
                            have h := h v217 s217 hv217 Ws217 (rNMp.keep qs217.1 rfl rfl rfl rfl rfl) (TPRp.keep qs217.1 rfl rfl rfl) (WNp.keep qs217.1 rfl rfl rfl rfl rfl) (CCp.keep qs217.1 rfl rfl rfl rfl rfl rfl rfl) (qs217.1.R rfl) (qs217.1.F rfl) (qs217.1.F rfl) (qs217.1.F rfl) (qs217.1.F rfl) (qs217.1.F rfl) (qs217.1.F rfl) (qs217.1.F rfl) (qs217.1.F rfl) (qs217.1.F rfl) (qs217.1.F rfl) (qs217.1.F rfl) (fun i => qs217.1.A (f := 26) (by decide) rfl) (qs217.1.FG g0 rfl) (qs217.1.FG g0 rfl) (qs217.1.FG g0 rfl) (qs217.1.FG g0 rfl) (fz_keep qs217.1 rfl) qs217.2
                            refine z_istore hC (pc := 220) (lv' := [(5, iv v217), (0, .ref (κ 0)), (1, iv x1), (2, iv y199_2), (4, iv y199_4)]) dX14_readOptions_220 (by decide) rfl ?_
                            refine z_aload_n hC (pc := 222) 1 dX14_readOptions_222 rfl rfl ?_
                            refine z_aload_n hC (pc := 223) 1 dX14_readOptions_223 rfl rfl ?_
                            refine y_get hC (pc := 224) zf14 rOb_0 26 (v := .ref (κ 1026)) dX14_readOptions_224 zw2493 (rv_c rfl) (kk := ?_)
                            refine z_aload_n hC (pc := 227) 1 dX14_readOptions_227 rfl rfl ?_
                            refine y_get hC (pc := 228) zf14 rOb_0 28 (v := iv (rF s217 0 28)) dX14_readOptions_228 zw2495 (rv_i (Or.inl rfl) rfl) (kk := ?_)
                            have h := h (Ws217.f _ _)
                            refine z_aload_n hC (pc := 231) 1 dX14_readOptions_231 rfl rfl ?_
                            refine y_get hC (pc := 232) zf14 rOb_0 29 (v := iv (rF s199 0 29)) dX14_readOptions_232 zw2496 (rv_i (Or.inl rfl) ((qs217.1.F rfl).trans rfl)) (kk := ?_)
                            have h := h (Ws199.f _ _)
                            obtain ⟨p142, h⟩ := h
                            refine y_callSi hC (pc := 235) (As := [.ref (κ 1026), iv (rF s217 0 28), iv (rF s199 0 29)]) (kX14_wordEnd_t l G κ s217 1026 4001 (rF s217 0 28) (rF s199 0 29) Ws217 (rAr_m rfl) (Ws217.f _ _) (Ws199.f _ _) p142) dmX14_wordEnd dX14_readOptions_235 zw3009 rfl rfl (Nat.le_of_ble_eq_true rfl) (Nat.le_of_ble_eq_true rfl) (by omega) (by omega) (Nat.le_of_ble_eq_true rfl) (kk := fun v235 s235 hv235 Ws235 qs235 => ?_)
                            obtain ⟨es235, qs235⟩ := qs235
                            have es235 := es235.symm
                            subst es235
                            have h := h v235 hv235 qs235
                            refine y_putI hC (pc := 238) zf14 rOb_0 29 (x := v235) dX14_readOptions_238 zw2496 (Or.inl rfl) rfl rfl (kk := ?_)
                            have W143 := Ws217.sF (q := 0) (f := 29) (x := v235) hv235
                            refine z_aload_n hC (pc := 241) 1 dX14_readOptions_241 rfl rfl ?_
                            obtain ⟨p144, h⟩ := h
                            refine y_callVv hC (pc := 242) (As := []) (kX14_blanks l G κ (sF s217 0 29 v235)  W143  p144) dmX14_blanks zf14 rOb_0 dX14_readOptions_242 zw3119 rfl rfl (Nat.le_of_ble_eq_true rfl) (Nat.le_of_ble_eq_true rfl) (by omega) (by omega) (Nat.le_of_ble_eq_true rfl) (kk := fun s242 Ws242 qs242 => ?_)
                            have h := h s242 Ws242 (rNMp.keep qs242.1 rfl rfl rfl rfl rfl) (TPRp.keep qs242.1 rfl rfl rfl) (WNp.keep qs242.1 rfl rfl rfl rfl rfl) (PNp.keep qs242.1 rfl rfl rfl rfl rfl) (CCp.keep qs242.1 rfl rfl rfl rfl rfl rfl rfl) (qs242.1.R rfl) (qs242.1.F rfl) (qs242.1.F rfl) (qs242.1.F rfl) (qs242.1.F rfl) (qs242.1.F rfl) (qs242.1.F rfl) (qs242.1.F rfl) (qs242.1.F rfl) (qs242.1.F rfl) (qs242.1.F rfl) (fun i => qs242.1.A (f := 26) (by decide) rfl) (qs242.1.FG g0 rfl) (qs242.1.FG g0 rfl) (qs242.1.FG g0 rfl) (qs242.1.FG g0 rfl) (qs242.1.FG g0 rfl) (fz_keep qs242.1 rfl) (RG.keep (c0 := 0) qs242.1 rfl rfl rfl rfl rfl rfl rfl rfl rfl rfl rfl rfl rfl rfl rfl rfl rfl rfl) qs242.2
                            refine z_aload_n hC (pc := 245) 1 dX14_readOptions_245 rfl rfl ?_
                            obtain ⟨p145, h⟩ := h
                            refine y_callVi hC (pc := 246) (As := []) (kX14_here l G κ s242  Ws242  p145) dmX14_here zf14 rOb_0 dX14_readOptions_246 zw3099 rfl rfl (Nat.le_of_ble_eq_true rfl) (Nat.le_of_ble_eq_true rfl) (by omega) (by omega) (Nat.le_of_ble_eq_true rfl) (kk := fun v246 s246 hv246 Ws246 qs246 => ?_)
                            obtain ⟨es246, qs246⟩ := qs246
                            have es246 := es246.symm
                            subst es246
                            have h := h v246 hv246 qs246
                            refine z_bipush hC (pc := 249) (v := Int32.ofInt 61) dX14_readOptions_249 (by decide) ?_
                            obtain ⟨hT, hF⟩ := h
                            refine y_icmp_ne hC (pc := 251) 281 hv246 (r_lit rfl) dX14_readOptions_251 (by decide) (fun c => ?_) (fun c => ?_)
                            · have h := hT c
                              refine z_iload hC (pc := 281) 4 dX14_readOptions_281 rfl ?_
                              refine z_iconst hC (pc := 283) (v := Int32.ofInt 3) dX14_readOptions_283 (by decide) ?_
                              obtain ⟨hT, hF⟩ := h
                              refine y_icmp_ge hC (pc := 284) 296 hy199_4 (r_lit rfl) dX14_readOptions_284 (by decide) (fun c => ?_) (fun c => ?_)
                              · have h := hT c
                                refine z_iload_n hC (pc := 296) 3 dX14_readOptions_296 rfl rfl ?_
                                have j325 : ∀ (s325 : rS) (y325_5 : Int), rWF s325 → rng y325_5 → rKeep 0x6c0a3001c00 0x4100001280 0x13c00000000 0x3ee0000d7f 0 σ s325 → inv_X14_readOptions_325 σ x1 gg g (mu_X14_readOptions_25 σ x1 gg g s25 y25_2 y25_3) s325 y325_5 → zS X G 6 (rW G κ s325) [(0, .ref (κ 0)), (1, iv x1), (5, iv y325_5)] 0 0 325 [] := by
                                  intro s325 y325_5 Ws325 hy325_5 kJ hI
                                  have h := h_325 (mu_X14_readOptions_25 σ x1 gg g s25 y25_2 y25_3) s325 y325_5 Ws325 hy325_5 (TPRp.keep kJ rfl rfl rfl) (CCp.keep kJ rfl rfl rfl rfl rfl rfl rfl) (kJ.R rfl) (kJ.F rfl) (kJ.F rfl) (kJ.F rfl) (kJ.F rfl) (kJ.F rfl) (kJ.F rfl) (fun i => kJ.A (f := 26) (by decide) rfl) hI
                                  refine z_iload hC (pc := 325) 2 dX14_readOptions_325 rfl ?_
                                  refine z_istore_n hC (pc := 327) (lv' := [(2, iv y325_5), (0, .ref (κ 0)), (1, iv x1), (5, iv y325_5)]) dX14_readOptions_327 rfl (by decide) rfl ?_
                                  refine z_aload_n hC (pc := 328) 1 dX14_readOptions_328 rfl rfl ?_
                                  obtain ⟨p146, h⟩ := h
                                  refine y_callVv hC (pc := 329) (As := []) (kX14_blanks l G κ s325  Ws325  p146) dmX14_blanks zf14 rOb_0 dX14_readOptions_329 zw3119 rfl rfl (Nat.le_of_ble_eq_true rfl) (Nat.le_of_ble_eq_true rfl) (by omega) (by omega) (Nat.le_of_ble_eq_true rfl) (kk := fun s329 Ws329 qs329 => ?_)
                                  have h := h s329 Ws329 (rNMp.keep qs329.1 rfl rfl rfl rfl rfl) (TPRp.keep qs329.1 rfl rfl rfl) (WNp.keep qs329.1 rfl rfl rfl rfl rfl) (PNp.keep qs329.1 rfl rfl rfl rfl rfl) (CCp.keep qs329.1 rfl rfl rfl rfl rfl rfl rfl) (qs329.1.R rfl) (qs329.1.F rfl) (qs329.1.F rfl) (qs329.1.F rfl) (qs329.1.F rfl) (qs329.1.F rfl) (qs329.1.F rfl) (qs329.1.F rfl) (qs329.1.F rfl) (qs329.1.F rfl) (qs329.1.F rfl) (fun i => qs329.1.A (f := 26) (by decide) rfl) (qs329.1.FG g0 rfl) (qs329.1.FG g0 rfl) (qs329.1.FG g0 rfl) (qs329.1.FG g0 rfl) (qs329.1.FG g0 rfl) (fz_keep qs329.1 rfl) (RG.keep (c0 := 0) qs329.1 rfl rfl rfl rfl rfl rfl rfl rfl rfl rfl rfl rfl rfl rfl rfl rfl rfl rfl) qs329.2
                                  refine z_aload_n hC (pc := 332) 1 dX14_readOptions_332 rfl rfl ?_
                                  obtain ⟨p147, h⟩ := h
                                  refine y_callVi hC (pc := 333) (As := []) (kX14_here l G κ s329  Ws329  p147) dmX14_here zf14 rOb_0 dX14_readOptions_333 zw3099 rfl rfl (Nat.le_of_ble_eq_true rfl) (Nat.le_of_ble_eq_true rfl) (by omega) (by omega) (Nat.le_of_ble_eq_true rfl) (kk := fun v333 s333 hv333 Ws333 qs333 => ?_)
                                  obtain ⟨es333, qs333⟩ := qs333
                                  have es333 := es333.symm
                                  subst es333
                                  have h := h v333 hv333 qs333
                                  refine z_bipush hC (pc := 336) (v := Int32.ofInt 44) dX14_readOptions_336 (by decide) ?_
                                  obtain ⟨hT, hF⟩ := h
                                  refine y_icmp_ne hC (pc := 338) 345 hv333 (r_lit rfl) dX14_readOptions_338 (by decide) (fun c => ?_) (fun c => ?_)
                                  · have h := hT c
                                    refine z_iconst hC (pc := 345) (v := Int32.ofInt 0) dX14_readOptions_345 (by decide) ?_
                                    refine z_istore_n hC (pc := 346) (lv' := [(3, iv 0), (2, iv y325_5), (0, .ref (κ 0)), (1, iv x1), (5, iv y325_5)]) dX14_readOptions_346 rfl (by decide) rfl ?_
                                    refine z_goto hC (pc := 347) 25 dX14_readOptions_347 (by decide) ?_
                                    refine z_lvs [2, 3, 1, 0] rfl ?_
                                    obtain ⟨hI, hm⟩ := h
                                    exact ih25 s329 y325_5 0 Ws329 hy325_5 (r_lit rfl) (rKeep.tr (rKeep.tr rKeep.rf kJ rfl rfl rfl rfl rfl) qs329.1 rfl rfl rfl rfl rfl) hI (by omega)
                                  · have h := hF c
                                    refine z_iconst hC (pc := 341) (v := Int32.ofInt 1) dX14_readOptions_341 (by decide) ?_
                                    refine z_goto hC (pc := 342) 346 dX14_readOptions_342 (by decide) ?_
                                    refine z_istore_n hC (pc := 346) (lv' := [(3, iv 1), (2, iv y325_5), (0, .ref (κ 0)), (1, iv x1), (5, iv y325_5)]) dX14_readOptions_346 rfl (by decide) rfl ?_
                                    refine z_goto hC (pc := 347) 25 dX14_readOptions_347 (by decide) ?_
                                    refine z_lvs [2, 3, 1, 0] rfl ?_
                                    obtain ⟨hI, hm⟩ := h
                                    exact ih25 s329 y325_5 1 Ws329 hy325_5 (r_lit rfl) (rKeep.tr (rKeep.tr rKeep.rf kJ rfl rfl rfl rfl rfl) qs329.1 rfl rfl rfl rfl rfl) hI (by omega)
                                obtain ⟨hT, hF⟩ := h
                                refine y_if_ne hC (pc := 297) 314 hy199_2 dX14_readOptions_297 (by decide) (fun c => ?_) (fun c => ?_)
                                · have h := hT c
                                  refine z_aload_n hC (pc := 314) 1 dX14_readOptions_314 rfl rfl ?_
                                  refine y_get hC (pc := 315) zf14 rOb_0 7 (v := .ref (κ (rR σ 7))) dX14_readOptions_315 zw2475 (rv_g rfl ((qs242.1.R rfl).trans ((qs217.1.R rfl).trans (kJ.R rfl))) g0) (kk := ?_)
                                  refine y_getN hC (pc := 318) zf13 (rOb_k g0) 5 (v := .ref (κ (1000 * ((rR σ 7) + 1) + 5))) dX14_readOptions_318 zw2320 (rv_c rfl) (kk := ?_)
                                  refine z_iload_n hC (pc := 321) 3 dX14_readOptions_321 rfl rfl ?_
                                  refine z_iload hC (pc := 322) 0 dX14_readOptions_322 rfl ?_
                                  obtain ⟨b148, h⟩ := h
                                  refine y_iast hC (pc := 324) (rAr_k g0 rfl rfl) dX14_readOptions_324 b148 (v := v217) (kk := ?_)
                                  have W149 := Ws242.sA (p := (1000 * ((rR σ 7) + 1) + 5)) (i := y199_2) (x := v217) hv217
                                  refine z_lvs [1, 2, 0] rfl ?_
                                  exact j325 (sT s242 (rR σ 7) 5 y199_2 v217) v217 W149 hv217 (rKeep.tr (rKeep.tr (rKeep.tr (rKeep.tr (rKeep.tr rKeep.rf kJ rfl rfl rfl rfl rfl) qs217.1 rfl rfl rfl rfl rfl) (rKeep.sF0 (f := 29)) rfl rfl rfl rfl rfl) qs242.1 rfl rfl rfl rfl rfl) (rKeep.sAk (f := 5) g0 (by decide)) rfl rfl rfl rfl rfl) h
                                · have h := hF c
                                  refine z_aload_n hC (pc := 300) 1 dX14_readOptions_300 rfl rfl ?_
                                  refine y_get hC (pc := 301) zf14 rOb_0 7 (v := .ref (κ (rR σ 7))) dX14_readOptions_301 zw2475 (rv_g rfl ((qs242.1.R rfl).trans ((qs217.1.R rfl).trans (kJ.R rfl))) g0) (kk := ?_)
                                  refine y_getN hC (pc := 304) zf13 (rOb_k g0) 2 (v := .ref (κ (1000 * ((rR σ 7) + 1) + 2))) dX14_readOptions_304 zw2314 (rv_c rfl) (kk := ?_)
                                  refine z_iload_n hC (pc := 307) 2 dX14_readOptions_307 rfl rfl ?_
                                  refine z_iload hC (pc := 308) 0 dX14_readOptions_308 rfl ?_
                                  obtain ⟨b150, h⟩ := h
                                  refine y_iast hC (pc := 310) (rAr_k g0 rfl rfl) dX14_readOptions_310 b150 (v := v217) (kk := ?_)
                                  have W151 := Ws242.sA (p := (1000 * ((rR σ 7) + 1) + 2)) (i := x1) (x := v217) hv217
                                  refine z_goto hC (pc := 311) 325 dX14_readOptions_311 (by decide) ?_
                                  refine z_lvs [1, 2, 0] rfl ?_
                                  exact j325 (sT s242 (rR σ 7) 2 x1 v217) v217 W151 hv217 (rKeep.tr (rKeep.tr (rKeep.tr (rKeep.tr (rKeep.tr rKeep.rf kJ rfl rfl rfl rfl rfl) qs217.1 rfl rfl rfl rfl rfl) (rKeep.sF0 (f := 29)) rfl rfl rfl rfl rfl) qs242.1 rfl rfl rfl rfl rfl) (rKeep.sAk (f := 2) g0 (by decide)) rfl rfl rfl rfl rfl) h
                              · have h := hF c
                                refine z_aload_n hC (pc := 287) 1 dX14_readOptions_287 rfl rfl ?_
                                refine z_iconst hC (pc := 288) (v := Int32.ofInt 1) dX14_readOptions_288 (by decide) ?_
                                refine z_aload_n hC (pc := 289) 1 dX14_readOptions_289 rfl rfl ?_
                                obtain ⟨p152, h⟩ := h
                                refine y_callVi hC (pc := 290) (As := []) (kX14_place l G κ s242  Ws242  p152) dmX14_place zf14 rOb_0 dX14_readOptions_290 zw3103 rfl rfl (Nat.le_of_ble_eq_true rfl) (Nat.le_of_ble_eq_true rfl) (by omega) (by omega) (Nat.le_of_ble_eq_true rfl) (kk := fun v290 s290 hv290 Ws290 qs290 => ?_)
                                obtain ⟨es290, qs290⟩ := qs290
                                have es290 := es290.symm
                                subst es290
                                have h := h v290 hv290 qs290
                                obtain ⟨p153, h⟩ := h
                                refine y_callVv hC (pc := 293) (As := [iv 1, iv v290]) (kX14_bad l G κ s242 1 v290 Ws242 (r_lit rfl) hv290 p153) dmX14_bad zf14 rOb_0 dX14_readOptions_293 zw3000 rfl rfl (Nat.le_of_ble_eq_true rfl) (Nat.le_of_ble_eq_true rfl) (by omega) (by omega) (Nat.le_of_ble_eq_true rfl) (kk := fun s293 Ws293 qs293 => ?_)
                                have h := h s293 Ws293 (rNMp.keep qs293.1 rfl rfl rfl rfl rfl) (TPRp.keep qs293.1 rfl rfl rfl) (WNp.keep qs293.1 rfl rfl rfl rfl rfl) (PNp.keep qs293.1 rfl rfl rfl rfl rfl) (CCp.keep qs293.1 rfl rfl rfl rfl rfl rfl rfl) (qs293.1.R rfl) (qs293.1.F rfl) (qs293.1.F rfl) (qs293.1.F rfl) (qs293.1.F rfl) (qs293.1.F rfl) (qs293.1.F rfl) (qs293.1.F rfl) (qs293.1.F rfl) (qs293.1.F rfl) (qs293.1.F rfl) (fun i => qs293.1.A (f := 26) (by decide) rfl) (qs293.1.FG g0 rfl) (qs293.1.FG g0 rfl) (qs293.1.FG g0 rfl) (qs293.1.FG g0 rfl) (qs293.1.FG g0 rfl) (RG.keep (c0 := 0) qs293.1 rfl rfl rfl rfl rfl rfl rfl rfl rfl rfl rfl rfl rfl rfl rfl rfl rfl rfl) qs293.2
                                refine z_iload_n hC (pc := 296) 3 dX14_readOptions_296 rfl rfl ?_
                                have j325 : ∀ (s325 : rS) (y325_5 : Int), rWF s325 → rng y325_5 → rKeep 0x6c0a3001c00 0x4100001280 0x13c00000000 0x3ee0000d7f 0 σ s325 → inv_X14_readOptions_325 σ x1 gg g (mu_X14_readOptions_25 σ x1 gg g s25 y25_2 y25_3) s325 y325_5 → zS X G 6 (rW G κ s325) [(0, .ref (κ 0)), (1, iv x1), (5, iv y325_5)] 0 0 325 [] := by
                                  intro s325 y325_5 Ws325 hy325_5 kJ hI
                                  have h := h_325 (mu_X14_readOptions_25 σ x1 gg g s25 y25_2 y25_3) s325 y325_5 Ws325 hy325_5 (TPRp.keep kJ rfl rfl rfl) (CCp.keep kJ rfl rfl rfl rfl rfl rfl rfl) (kJ.R rfl) (kJ.F rfl) (kJ.F rfl) (kJ.F rfl) (kJ.F rfl) (kJ.F rfl) (kJ.F rfl) (fun i => kJ.A (f := 26) (by decide) rfl) hI
                                  refine z_iload hC (pc := 325) 2 dX14_readOptions_325 rfl ?_
                                  refine z_istore_n hC (pc := 327) (lv' := [(2, iv y325_5), (0, .ref (κ 0)), (1, iv x1), (5, iv y325_5)]) dX14_readOptions_327 rfl (by decide) rfl ?_
                                  refine z_aload_n hC (pc := 328) 1 dX14_readOptions_328 rfl rfl ?_
                                  obtain ⟨p154, h⟩ := h
                                  refine y_callVv hC (pc := 329) (As := []) (kX14_blanks l G κ s325  Ws325  p154) dmX14_blanks zf14 rOb_0 dX14_readOptions_329 zw3119 rfl rfl (Nat.le_of_ble_eq_true rfl) (Nat.le_of_ble_eq_true rfl) (by omega) (by omega) (Nat.le_of_ble_eq_true rfl) (kk := fun s329 Ws329 qs329 => ?_)
                                  have h := h s329 Ws329 (rNMp.keep qs329.1 rfl rfl rfl rfl rfl) (TPRp.keep qs329.1 rfl rfl rfl) (WNp.keep qs329.1 rfl rfl rfl rfl rfl) (PNp.keep qs329.1 rfl rfl rfl rfl rfl) (CCp.keep qs329.1 rfl rfl rfl rfl rfl rfl rfl) (qs329.1.R rfl) (qs329.1.F rfl) (qs329.1.F rfl) (qs329.1.F rfl) (qs329.1.F rfl) (qs329.1.F rfl) (qs329.1.F rfl) (qs329.1.F rfl) (qs329.1.F rfl) (qs329.1.F rfl) (qs329.1.F rfl) (fun i => qs329.1.A (f := 26) (by decide) rfl) (qs329.1.FG g0 rfl) (qs329.1.FG g0 rfl) (qs329.1.FG g0 rfl) (qs329.1.FG g0 rfl) (qs329.1.FG g0 rfl) (fz_keep qs329.1 rfl) (RG.keep (c0 := 0) qs329.1 rfl rfl rfl rfl rfl rfl rfl rfl rfl rfl rfl rfl rfl rfl rfl rfl rfl rfl) qs329.2
                                  refine z_aload_n hC (pc := 332) 1 dX14_readOptions_332 rfl rfl ?_
                                  obtain ⟨p155, h⟩ := h
                                  refine y_callVi hC (pc := 333) (As := []) (kX14_here l G κ s329  Ws329  p155) dmX14_here zf14 rOb_0 dX14_readOptions_333 zw3099 rfl rfl (Nat.le_of_ble_eq_true rfl) (Nat.le_of_ble_eq_true rfl) (by omega) (by omega) (Nat.le_of_ble_eq_true rfl) (kk := fun v333 s333 hv333 Ws333 qs333 => ?_)
                                  obtain ⟨es333, qs333⟩ := qs333
                                  have es333 := es333.symm
                                  subst es333
                                  have h := h v333 hv333 qs333
                                  refine z_bipush hC (pc := 336) (v := Int32.ofInt 44) dX14_readOptions_336 (by decide) ?_
                                  obtain ⟨hT, hF⟩ := h
                                  refine y_icmp_ne hC (pc := 338) 345 hv333 (r_lit rfl) dX14_readOptions_338 (by decide) (fun c => ?_) (fun c => ?_)
                                  · have h := hT c
                                    refine z_iconst hC (pc := 345) (v := Int32.ofInt 0) dX14_readOptions_345 (by decide) ?_
                                    refine z_istore_n hC (pc := 346) (lv' := [(3, iv 0), (2, iv y325_5), (0, .ref (κ 0)), (1, iv x1), (5, iv y325_5)]) dX14_readOptions_346 rfl (by decide) rfl ?_
                                    refine z_goto hC (pc := 347) 25 dX14_readOptions_347 (by decide) ?_
                                    refine z_lvs [2, 3, 1, 0] rfl ?_
                                    obtain ⟨hI, hm⟩ := h
                                    exact ih25 s329 y325_5 0 Ws329 hy325_5 (r_lit rfl) (rKeep.tr (rKeep.tr rKeep.rf kJ rfl rfl rfl rfl rfl) qs329.1 rfl rfl rfl rfl rfl) hI (by omega)
                                  · have h := hF c
                                    refine z_iconst hC (pc := 341) (v := Int32.ofInt 1) dX14_readOptions_341 (by decide) ?_
                                    refine z_goto hC (pc := 342) 346 dX14_readOptions_342 (by decide) ?_
                                    refine z_istore_n hC (pc := 346) (lv' := [(3, iv 1), (2, iv y325_5), (0, .ref (κ 0)), (1, iv x1), (5, iv y325_5)]) dX14_readOptions_346 rfl (by decide) rfl ?_
                                    refine z_goto hC (pc := 347) 25 dX14_readOptions_347 (by decide) ?_
                                    refine z_lvs [2, 3, 1, 0] rfl ?_
                                    obtain ⟨hI, hm⟩ := h
                                    exact ih25 s329 y325_5 1 Ws329 hy325_5 (r_lit rfl) (rKeep.tr (rKeep.tr rKeep.rf kJ rfl rfl rfl rfl rfl) qs329.1 rfl rfl rfl rfl rfl) hI (by omega)
                                obtain ⟨hT, hF⟩ := h
                                refine y_if_ne hC (pc := 297) 314 hy199_2 dX14_readOptions_297 (by decide) (fun c => ?_) (fun c => ?_)
                                · have h := hT c
                                  refine z_aload_n hC (pc := 314) 1 dX14_readOptions_314 rfl rfl ?_
                                  refine y_get hC (pc := 315) zf14 rOb_0 7 (v := .ref (κ (rR σ 7))) dX14_readOptions_315 zw2475 (rv_g rfl ((qs293.1.R rfl).trans ((qs242.1.R rfl).trans ((qs217.1.R rfl).trans (kJ.R rfl)))) g0) (kk := ?_)
                                  refine y_getN hC (pc := 318) zf13 (rOb_k g0) 5 (v := .ref (κ (1000 * ((rR σ 7) + 1) + 5))) dX14_readOptions_318 zw2320 (rv_c rfl) (kk := ?_)
                                  refine z_iload_n hC (pc := 321) 3 dX14_readOptions_321 rfl rfl ?_
                                  refine z_iload hC (pc := 322) 0 dX14_readOptions_322 rfl ?_
                                  obtain ⟨b156, h⟩ := h
                                  refine y_iast hC (pc := 324) (rAr_k g0 rfl rfl) dX14_readOptions_324 b156 (v := v217) (kk := ?_)
                                  have W157 := Ws293.sA (p := (1000 * ((rR σ 7) + 1) + 5)) (i := y199_2) (x := v217) hv217
                                  refine z_lvs [1, 2, 0] rfl ?_
                                  exact j325 (sT s293 (rR σ 7) 5 y199_2 v217) v217 W157 hv217 (rKeep.tr (rKeep.tr (rKeep.tr (rKeep.tr (rKeep.tr (rKeep.tr rKeep.rf kJ rfl rfl rfl rfl rfl) qs217.1 rfl rfl rfl rfl rfl) (rKeep.sF0 (f := 29)) rfl rfl rfl rfl rfl) qs242.1 rfl rfl rfl rfl rfl) qs293.1 rfl rfl rfl rfl rfl) (rKeep.sAk (f := 5) g0 (by decide)) rfl rfl rfl rfl rfl) h
                                · have h := hF c
                                  refine z_aload_n hC (pc := 300) 1 dX14_readOptions_300 rfl rfl ?_
                                  refine y_get hC (pc := 301) zf14 rOb_0 7 (v := .ref (κ (rR σ 7))) dX14_readOptions_301 zw2475 (rv_g rfl ((qs293.1.R rfl).trans ((qs242.1.R rfl).trans ((qs217.1.R rfl).trans (kJ.R rfl)))) g0) (kk := ?_)
                                  refine y_getN hC (pc := 304) zf13 (rOb_k g0) 2 (v := .ref (κ (1000 * ((rR σ 7) + 1) + 2))) dX14_readOptions_304 zw2314 (rv_c rfl) (kk := ?_)
                                  refine z_iload_n hC (pc := 307) 2 dX14_readOptions_307 rfl rfl ?_
                                  refine z_iload hC (pc := 308) 0 dX14_readOptions_308 rfl ?_
                                  obtain ⟨b158, h⟩ := h
                                  refine y_iast hC (pc := 310) (rAr_k g0 rfl rfl) dX14_readOptions_310 b158 (v := v217) (kk := ?_)
                                  have W159 := Ws293.sA (p := (1000 * ((rR σ 7) + 1) + 2)) (i := x1) (x := v217) hv217
                                  refine z_goto hC (pc := 311) 325 dX14_readOptions_311 (by decide) ?_
                                  refine z_lvs [1, 2, 0] rfl ?_
                                  exact j325 (sT s293 (rR σ 7) 2 x1 v217) v217 W159 hv217 (rKeep.tr (rKeep.tr (rKeep.tr (rKeep.tr (rKeep.tr (rKeep.tr rKeep.rf kJ rfl rfl rfl rfl rfl) qs217.1 rfl rfl rfl rfl rfl) (rKeep.sF0 (f := 29)) rfl rfl rfl rfl rfl) qs242.1 rfl rfl rfl rfl rfl) qs293.1 rfl rfl rfl rfl rfl) (rKeep.sAk (f := 2) g0 (by decide)) rfl rfl rfl rfl rfl) h
                            · have h := hF c
                              refine z_aload_n hC (pc := 254) 1 dX14_readOptions_254 rfl rfl ?_
                              refine z_dup hC (pc := 255) dX14_readOptions_255 rfl ?_
                              refine y_get hC (pc := 256) zf14 rOb_0 29 (v := iv (rF s242 0 29)) dX14_readOptions_256 zw2496 (rv_i (Or.inl rfl) rfl) (kk := ?_)
                              have h := h (Ws242.f _ _)
                              refine z_iconst hC (pc := 259) (v := Int32.ofInt 1) dX14_readOptions_259 (by decide) ?_
                              refine y_iadd hC (pc := 260) (v := ((rF s242 0 29) + 1)) dX14_readOptions_260 rfl ?_
                              obtain ⟨r160, h⟩ := h
                              refine y_putI hC (pc := 261) zf14 rOb_0 29 (x := ((rF s242 0 29) + 1)) dX14_readOptions_261 zw2496 (Or.inl rfl) rfl rfl (kk := ?_)
                              have W161 := Ws242.sF (q := 0) (f := 29) (x := ((rF s242 0 29) + 1)) r160
                              refine z_aload_n hC (pc := 264) 1 dX14_readOptions_264 rfl rfl ?_
                              refine y_get hC (pc := 265) zf14 rOb_0 7 (v := .ref (κ (rR σ 7))) dX14_readOptions_265 zw2475 (rv_g rfl ((qs242.1.R rfl).trans ((qs217.1.R rfl).trans (kJ.R rfl))) g0) (kk := ?_)
                              refine y_getN hC (pc := 268) zf13 (rOb_k g0) 2 (v := .ref (κ (1000 * ((rR σ 7) + 1) + 2))) dX14_readOptions_268 zw2314 (rv_c rfl) (kk := ?_)
                              refine z_iload hC (pc := 271) 0 dX14_readOptions_271 rfl ?_
                              refine z_aload_n hC (pc := 273) 1 dX14_readOptions_273 rfl rfl ?_
                              obtain ⟨g162, h⟩ := h
                              obtain ⟨p163, h⟩ := h
                              obtain ⟨p164, h⟩ := h
                              refine y_callVi hC (pc := 274) (As := []) (qX14_readArg ih (sF s242 0 29 ((rF s242 0 29) + 1)) gg g162 W161  p163 p164) dmX14_readArg zf14 rOb_0 dX14_readOptions_274 zw3234 rfl rfl (Nat.le_of_ble_eq_true rfl) (Nat.le_of_ble_eq_true rfl) (by omega) (by omega) (Nat.le_of_ble_eq_true rfl) (kk := fun v274 s274 hv274 Ws274 qs274 => ?_)
                              have h := h v274 s274 hv274 Ws274 (TPRp.keep qs274.1 rfl rfl rfl) (CCp.keep qs274.1 rfl rfl rfl rfl rfl rfl rfl) (qs274.1.R rfl) (qs274.1.F rfl) (qs274.1.F rfl) (qs274.1.F rfl) (qs274.1.F rfl) (qs274.1.F rfl) (qs274.1.F rfl) (fun i => qs274.1.A (f := 26) (by decide) rfl) qs274.2
                              obtain ⟨b165, h⟩ := h
                              refine y_iast hC (pc := 277) (rAr_k g0 rfl rfl) dX14_readOptions_277 b165 (v := v274) (kk := ?_)
                              have W166 := Ws274.sA (p := (1000 * ((rR σ 7) + 1) + 2)) (i := v217) (x := v274) hv274
                              refine z_goto hC (pc := 278) 296 dX14_readOptions_278 (by decide) ?_
                              refine z_iload_n hC (pc := 296) 3 dX14_readOptions_296 rfl rfl ?_
                              have j325 : ∀ (s325 : rS) (y325_5 : Int), rWF s325 → rng y325_5 → rKeep 0x6c0a3001c00 0x4100001280 0x13c00000000 0x3ee0000d7f 0 σ s325 → inv_X14_readOptions_325 σ x1 gg g (mu_X14_readOptions_25 σ x1 gg g s25 y25_2 y25_3) s325 y325_5 → zS X G 6 (rW G κ s325) [(0, .ref (κ 0)), (1, iv x1), (5, iv y325_5)] 0 0 325 [] := by
                                intro s325 y325_5 Ws325 hy325_5 kJ hI
                                have h := h_325 (mu_X14_readOptions_25 σ x1 gg g s25 y25_2 y25_3) s325 y325_5 Ws325 hy325_5 (TPRp.keep kJ rfl rfl rfl) (CCp.keep kJ rfl rfl rfl rfl rfl rfl rfl) (kJ.R rfl) (kJ.F rfl) (kJ.F rfl) (kJ.F rfl) (kJ.F rfl) (kJ.F rfl) (kJ.F rfl) (fun i => kJ.A (f := 26) (by decide) rfl) hI
                                refine z_iload hC (pc := 325) 2 dX14_readOptions_325 rfl ?_
                                refine z_istore_n hC (pc := 327) (lv' := [(2, iv y325_5), (0, .ref (κ 0)), (1, iv x1), (5, iv y325_5)]) dX14_readOptions_327 rfl (by decide) rfl ?_
                                refine z_aload_n hC (pc := 328) 1 dX14_readOptions_328 rfl rfl ?_
                                obtain ⟨p167, h⟩ := h
                                refine y_callVv hC (pc := 329) (As := []) (kX14_blanks l G κ s325  Ws325  p167) dmX14_blanks zf14 rOb_0 dX14_readOptions_329 zw3119 rfl rfl (Nat.le_of_ble_eq_true rfl) (Nat.le_of_ble_eq_true rfl) (by omega) (by omega) (Nat.le_of_ble_eq_true rfl) (kk := fun s329 Ws329 qs329 => ?_)
                                have h := h s329 Ws329 (rNMp.keep qs329.1 rfl rfl rfl rfl rfl) (TPRp.keep qs329.1 rfl rfl rfl) (WNp.keep qs329.1 rfl rfl rfl rfl rfl) (PNp.keep qs329.1 rfl rfl rfl rfl rfl) (CCp.keep qs329.1 rfl rfl rfl rfl rfl rfl rfl) (qs329.1.R rfl) (qs329.1.F rfl) (qs329.1.F rfl) (qs329.1.F rfl) (qs329.1.F rfl) (qs329.1.F rfl) (qs329.1.F rfl) (qs329.1.F rfl) (qs329.1.F rfl) (qs329.1.F rfl) (qs329.1.F rfl) (fun i => qs329.1.A (f := 26) (by decide) rfl) (qs329.1.FG g0 rfl) (qs329.1.FG g0 rfl) (qs329.1.FG g0 rfl) (qs329.1.FG g0 rfl) (qs329.1.FG g0 rfl) (fz_keep qs329.1 rfl) (RG.keep (c0 := 0) qs329.1 rfl rfl rfl rfl rfl rfl rfl rfl rfl rfl rfl rfl rfl rfl rfl rfl rfl rfl) qs329.2
                                refine z_aload_n hC (pc := 332) 1 dX14_readOptions_332 rfl rfl ?_
                                obtain ⟨p168, h⟩ := h
                                refine y_callVi hC (pc := 333) (As := []) (kX14_here l G κ s329  Ws329  p168) dmX14_here zf14 rOb_0 dX14_readOptions_333 zw3099 rfl rfl (Nat.le_of_ble_eq_true rfl) (Nat.le_of_ble_eq_true rfl) (by omega) (by omega) (Nat.le_of_ble_eq_true rfl) (kk := fun v333 s333 hv333 Ws333 qs333 => ?_)
                                obtain ⟨es333, qs333⟩ := qs333
                                have es333 := es333.symm
                                subst es333
                                have h := h v333 hv333 qs333
                                refine z_bipush hC (pc := 336) (v := Int32.ofInt 44) dX14_readOptions_336 (by decide) ?_
                                obtain ⟨hT, hF⟩ := h
                                refine y_icmp_ne hC (pc := 338) 345 hv333 (r_lit rfl) dX14_readOptions_338 (by decide) (fun c => ?_) (fun c => ?_)
                                · have h := hT c
                                  refine z_iconst hC (pc := 345) (v := Int32.ofInt 0) dX14_readOptions_345 (by decide) ?_
                                  refine z_istore_n hC (pc := 346) (lv' := [(3, iv 0), (2, iv y325_5), (0, .ref (κ 0)), (1, iv x1), (5, iv y325_5)]) dX14_readOptions_346 rfl (by decide) rfl ?_
                                  refine z_goto hC (pc := 347) 25 dX14_readOptions_347 (by decide) ?_
                                  refine z_lvs [2, 3, 1, 0] rfl ?_
                                  obtain ⟨hI, hm⟩ := h
                                  exact ih25 s329 y325_5 0 Ws329 hy325_5 (r_lit rfl) (rKeep.tr (rKeep.tr rKeep.rf kJ rfl rfl rfl rfl rfl) qs329.1 rfl rfl rfl rfl rfl) hI (by omega)
                                · have h := hF c
                                  refine z_iconst hC (pc := 341) (v := Int32.ofInt 1) dX14_readOptions_341 (by decide) ?_
                                  refine z_goto hC (pc := 342) 346 dX14_readOptions_342 (by decide) ?_
                                  refine z_istore_n hC (pc := 346) (lv' := [(3, iv 1), (2, iv y325_5), (0, .ref (κ 0)), (1, iv x1), (5, iv y325_5)]) dX14_readOptions_346 rfl (by decide) rfl ?_
                                  refine z_goto hC (pc := 347) 25 dX14_readOptions_347 (by decide) ?_
                                  refine z_lvs [2, 3, 1, 0] rfl ?_
                                  obtain ⟨hI, hm⟩ := h
                                  exact ih25 s329 y325_5 1 Ws329 hy325_5 (r_lit rfl) (rKeep.tr (rKeep.tr rKeep.rf kJ rfl rfl rfl rfl rfl) qs329.1 rfl rfl rfl rfl rfl) hI (by omega)
                              obtain ⟨hT, hF⟩ := h
                              refine y_if_ne hC (pc := 297) 314 hy199_2 dX14_readOptions_297 (by decide) (fun c => ?_) (fun c => ?_)
                              · have h := hT c
                                refine z_aload_n hC (pc := 314) 1 dX14_readOptions_314 rfl rfl ?_
                                refine y_get hC (pc := 315) zf14 rOb_0 7 (v := .ref (κ (rR σ 7))) dX14_readOptions_315 zw2475 (rv_g rfl ((qs274.1.R rfl).trans ((qs242.1.R rfl).trans ((qs217.1.R rfl).trans (kJ.R rfl)))) g0) (kk := ?_)
                                refine y_getN hC (pc := 318) zf13 (rOb_k g0) 5 (v := .ref (κ (1000 * ((rR σ 7) + 1) + 5))) dX14_readOptions_318 zw2320 (rv_c rfl) (kk := ?_)
                                refine z_iload_n hC (pc := 321) 3 dX14_readOptions_321 rfl rfl ?_
                                refine z_iload hC (pc := 322) 0 dX14_readOptions_322 rfl ?_
                                obtain ⟨b169, h⟩ := h
                                refine y_iast hC (pc := 324) (rAr_k g0 rfl rfl) dX14_readOptions_324 b169 (v := v217) (kk := ?_)
                                have W170 := W166.sA (p := (1000 * ((rR σ 7) + 1) + 5)) (i := y199_2) (x := v217) hv217
                                refine z_lvs [1, 2, 0] rfl ?_
                                exact j325 (sT (sT s274 (rR σ 7) 2 v217 v274) (rR σ 7) 5 y199_2 v217) v217 W170 hv217 (rKeep.tr (rKeep.tr (rKeep.tr (rKeep.tr (rKeep.tr (rKeep.tr (rKeep.tr (rKeep.tr rKeep.rf kJ rfl rfl rfl rfl rfl) qs217.1 rfl rfl rfl rfl rfl) (rKeep.sF0 (f := 29)) rfl rfl rfl rfl rfl) qs242.1 rfl rfl rfl rfl rfl) (rKeep.sF0 (f := 29)) rfl rfl rfl rfl rfl) qs274.1 rfl rfl rfl rfl rfl) (rKeep.sAk (f := 2) g0 (by decide)) rfl rfl rfl rfl rfl) (rKeep.sAk (f := 5) g0 (by decide)) rfl rfl rfl rfl rfl) h
                              · have h := hF c
                                refine z_aload_n hC (pc := 300) 1 dX14_readOptions_300 rfl rfl ?_
                                refine y_get hC (pc := 301) zf14 rOb_0 7 (v := .ref (κ (rR σ 7))) dX14_readOptions_301 zw2475 (rv_g rfl ((qs274.1.R rfl).trans ((qs242.1.R rfl).trans ((qs217.1.R rfl).trans (kJ.R rfl)))) g0) (kk := ?_)
                                refine y_getN hC (pc := 304) zf13 (rOb_k g0) 2 (v := .ref (κ (1000 * ((rR σ 7) + 1) + 2))) dX14_readOptions_304 zw2314 (rv_c rfl) (kk := ?_)
                                refine z_iload_n hC (pc := 307) 2 dX14_readOptions_307 rfl rfl ?_
                                refine z_iload hC (pc := 308) 0 dX14_readOptions_308 rfl ?_
                                obtain ⟨b171, h⟩ := h
                                refine y_iast hC (pc := 310) (rAr_k g0 rfl rfl) dX14_readOptions_310 b171 (v := v217) (kk := ?_)
                                have W172 := W166.sA (p := (1000 * ((rR σ 7) + 1) + 2)) (i := x1) (x := v217) hv217
                                refine z_goto hC (pc := 311) 325 dX14_readOptions_311 (by decide) ?_
                                refine z_lvs [1, 2, 0] rfl ?_
                                exact j325 (sT (sT s274 (rR σ 7) 2 v217 v274) (rR σ 7) 2 x1 v217) v217 W172 hv217 (rKeep.tr (rKeep.tr (rKeep.tr (rKeep.tr (rKeep.tr (rKeep.tr (rKeep.tr (rKeep.tr rKeep.rf kJ rfl rfl rfl rfl rfl) qs217.1 rfl rfl rfl rfl rfl) (rKeep.sF0 (f := 29)) rfl rfl rfl rfl rfl) qs242.1 rfl rfl rfl rfl rfl) (rKeep.sF0 (f := 29)) rfl rfl rfl rfl rfl) qs274.1 rfl rfl rfl rfl rfl) (rKeep.sAk (f := 2) g0 (by decide)) rfl rfl rfl rfl rfl) (rKeep.sAk (f := 2) g0 (by decide)) rfl rfl rfl rfl rfl) h
                          · have h := hF c
                            exact y_retv hR dX14_readOptions_206 Ws199 (Nat.le_of_ble_eq_true rfl) (Nat.le_of_ble_eq_true rfl) ⟨(rKeep.tr rKeep.rf kJ rfl rfl rfl rfl rfl), h⟩
                        obtain ⟨hT, hF⟩ := h
                        refine y_if_eq hC (pc := 150) 199 hy148_5 dX14_readOptions_150 (by decide) (fun c => ?_) (fun c => ?_)
                        · have h := hT c
                          refine z_lvs [0, 1, 2, 3] rfl ?_
                          exact j199 s148 y148_2 y148_4 Ws148 hy148_2 hy148_4 (rKeep.tr rKeep.rf kJ rfl rfl rfl rfl rfl) h
                        · have h := hF c
                          refine z_aload_n hC (pc := 153) 0 dX14_readOptions_153 rfl rfl ?_
                          refine y_get hC (pc := 154) zf14 rOb_0 10 (v := iv (rF s148 0 10)) dX14_readOptions_154 zw2478 (rv_i (Or.inl rfl) rfl) (kk := ?_)
                          have h := h (Ws148.f _ _)
                          obtain ⟨hT, hF⟩ := h
                          refine y_if_ne hC (pc := 157) 199 (Ws148.f _ _) dX14_readOptions_157 (by decide) (fun c => ?_) (fun c => ?_)
                          · have h := hT c
                            refine z_lvs [0, 1, 2, 3] rfl ?_
                            exact j199 s148 y148_2 y148_4 Ws148 hy148_2 hy148_4 (rKeep.tr rKeep.rf kJ rfl rfl rfl rfl rfl) h
                          · have h := hF c
                            refine z_aload_n hC (pc := 160) 0 dX14_readOptions_160 rfl rfl ?_
                            refine y_get hC (pc := 161) zf14 rOb_0 7 (v := .ref (κ (rR σ 7))) dX14_readOptions_161 zw2475 (rv_g rfl (kJ.R rfl) g0) (kk := ?_)
                            refine y_getN hC (pc := 164) zf13 (rOb_k g0) 1 (v := .ref (κ (1000 * ((rR σ 7) + 1) + 1))) dX14_readOptions_164 zw2312 (rv_c rfl) (kk := ?_)
                            refine z_iload hC (pc := 167) 4 dX14_readOptions_167 rfl ?_
                            obtain ⟨b173, h⟩ := h
                            refine y_iald hC (pc := 169) (rAr_k g0 rfl rfl) dX14_readOptions_169 b173 (v := (rA s148 (1000 * ((rR σ 7) + 1) + 1) y148_5)) rfl (kk := ?_)
                            have h := h (Ws148.a _ _)
                            refine z_iload hC (pc := 170) 3 dX14_readOptions_170 rfl ?_
                            obtain ⟨hT, hF⟩ := h
                            refine y_icmp_ne hC (pc := 172) 184 (Ws148.a _ _) hy148_4 dX14_readOptions_172 (by decide) (fun c => ?_) (fun c => ?_)
                            · have h := hT c
                              refine z_aload_n hC (pc := 184) 0 dX14_readOptions_184 rfl rfl ?_
                              refine y_get hC (pc := 185) zf14 rOb_0 7 (v := .ref (κ (rR σ 7))) dX14_readOptions_185 zw2475 (rv_g rfl (kJ.R rfl) g0) (kk := ?_)
                              refine y_getN hC (pc := 188) zf13 (rOb_k g0) 5 (v := .ref (κ (1000 * ((rR σ 7) + 1) + 5))) dX14_readOptions_188 zw2320 (rv_c rfl) (kk := ?_)
                              refine z_iload hC (pc := 191) 4 dX14_readOptions_191 rfl ?_
                              obtain ⟨b174, h⟩ := h
                              refine y_iald hC (pc := 193) (rAr_k g0 rfl rfl) dX14_readOptions_193 b174 (v := (rA s148 (1000 * ((rR σ 7) + 1) + 5) y148_5)) rfl (kk := ?_)
                              have h := h (Ws148.a _ _)
                              refine z_istore hC (pc := 194) (lv' := [(5, iv (rA s148 (1000 * ((rR σ 7) + 1) + 5) y148_5)), (0, .ref (κ 0)), (1, iv x1), (2, iv y148_2), (4, iv y148_4)]) dX14_readOptions_194 (by decide) rfl ?_
                              refine z_goto hC (pc := 196) 148 dX14_readOptions_196 (by decide) ?_
                              refine z_lvs [1, 2, 3, 4, 0] rfl ?_
                              obtain ⟨hI, hm⟩ := h
                              exact ih148 s148 y148_2 y148_4 (rA s148 (1000 * ((rR σ 7) + 1) + 5) y148_5) Ws148 hy148_2 hy148_4 (Ws148.a _ _) (rKeep.tr rKeep.rf kJ rfl rfl rfl rfl rfl) hI (by omega)
                            · have h := hF c
                              refine z_aload_n hC (pc := 175) 0 dX14_readOptions_175 rfl rfl ?_
                              refine z_iconst hC (pc := 176) (v := Int32.ofInt 3) dX14_readOptions_176 (by decide) ?_
                              refine z_aload_n hC (pc := 177) 0 dX14_readOptions_177 rfl rfl ?_
                              obtain ⟨p175, h⟩ := h
                              refine y_callVi hC (pc := 178) (As := []) (kX14_place l G κ s148  Ws148  p175) dmX14_place zf14 rOb_0 dX14_readOptions_178 zw3103 rfl rfl (Nat.le_of_ble_eq_true rfl) (Nat.le_of_ble_eq_true rfl) (by omega) (by omega) (Nat.le_of_ble_eq_true rfl) (kk := fun v178 s178 hv178 Ws178 qs178 => ?_)
                              obtain ⟨es178, qs178⟩ := qs178
                              have es178 := es178.symm
                              subst es178
                              have h := h v178 hv178 qs178
                              obtain ⟨p176, h⟩ := h
                              refine y_callVv hC (pc := 181) (As := [iv 3, iv v178]) (kX14_bad l G κ s148 3 v178 Ws148 (r_lit rfl) hv178 p176) dmX14_bad zf14 rOb_0 dX14_readOptions_181 zw3000 rfl rfl (Nat.le_of_ble_eq_true rfl) (Nat.le_of_ble_eq_true rfl) (by omega) (by omega) (Nat.le_of_ble_eq_true rfl) (kk := fun s181 Ws181 qs181 => ?_)
                              have h := h s181 Ws181 (rNMp.keep qs181.1 rfl rfl rfl rfl rfl) (TPRp.keep qs181.1 rfl rfl rfl) (WNp.keep qs181.1 rfl rfl rfl rfl rfl) (PNp.keep qs181.1 rfl rfl rfl rfl rfl) (CCp.keep qs181.1 rfl rfl rfl rfl rfl rfl rfl) (qs181.1.R rfl) (qs181.1.F rfl) (qs181.1.F rfl) (qs181.1.F rfl) (qs181.1.F rfl) (qs181.1.F rfl) (qs181.1.F rfl) (qs181.1.F rfl) (qs181.1.F rfl) (qs181.1.F rfl) (qs181.1.F rfl) (fun i => qs181.1.A (f := 26) (by decide) rfl) (qs181.1.FG g0 rfl) (qs181.1.FG g0 rfl) (qs181.1.FG g0 rfl) (qs181.1.FG g0 rfl) (qs181.1.FG g0 rfl) (RG.keep (c0 := 0) qs181.1 rfl rfl rfl rfl rfl rfl rfl rfl rfl rfl rfl rfl rfl rfl rfl rfl rfl rfl) qs181.2
                              refine z_aload_n hC (pc := 184) 0 dX14_readOptions_184 rfl rfl ?_
                              refine y_get hC (pc := 185) zf14 rOb_0 7 (v := .ref (κ (rR σ 7))) dX14_readOptions_185 zw2475 (rv_g rfl ((qs181.1.R rfl).trans (kJ.R rfl)) g0) (kk := ?_)
                              refine y_getN hC (pc := 188) zf13 (rOb_k g0) 5 (v := .ref (κ (1000 * ((rR σ 7) + 1) + 5))) dX14_readOptions_188 zw2320 (rv_c rfl) (kk := ?_)
                              refine z_iload hC (pc := 191) 4 dX14_readOptions_191 rfl ?_
                              obtain ⟨b177, h⟩ := h
                              refine y_iald hC (pc := 193) (rAr_k g0 rfl rfl) dX14_readOptions_193 b177 (v := (rA s181 (1000 * ((rR σ 7) + 1) + 5) y148_5)) rfl (kk := ?_)
                              have h := h (Ws181.a _ _)
                              refine z_istore hC (pc := 194) (lv' := [(5, iv (rA s181 (1000 * ((rR σ 7) + 1) + 5) y148_5)), (0, .ref (κ 0)), (1, iv x1), (2, iv y148_2), (4, iv y148_4)]) dX14_readOptions_194 (by decide) rfl ?_
                              refine z_goto hC (pc := 196) 148 dX14_readOptions_196 (by decide) ?_
                              refine z_lvs [1, 2, 3, 4, 0] rfl ?_
                              obtain ⟨hI, hm⟩ := h
                              exact ih148 s181 y148_2 y148_4 (rA s181 (1000 * ((rR σ 7) + 1) + 5) y148_5) Ws181 hy148_2 hy148_4 (Ws181.a _ _) (rKeep.tr (rKeep.tr rKeep.rf kJ rfl rfl rfl rfl rfl) qs181.1 rfl rfl rfl rfl rfl) hI (by omega)
                    refine z_lvs [2, 3, 4, 1, 0] rfl ?_
                    exact j148 _ s47 y25_2 2 (rA s47 (1000 * ((rR σ 7) + 1) + 2) x1) Ws47 hy25_2 (r_lit rfl) (Ws47.a _ _) (rKeep.tr (rKeep.tr (rKeep.tr rKeep.rf kJ rfl rfl rfl rfl rfl) (rKeep.sF0 (f := 29)) rfl rfl rfl rfl rfl) qs47.1 rfl rfl rfl rfl rfl) h (Nat.le_refl _)
                · have h := hF c
                  refine z_iconst hC (pc := 74) (v := Int32.ofInt 1) dX14_readOptions_74 (by decide) ?_
                  refine z_goto hC (pc := 75) 121 dX14_readOptions_75 (by decide) ?_
                  refine z_istore hC (pc := 121) (lv' := [(4, iv 1), (0, .ref (κ 0)), (1, iv x1), (2, iv y25_2), (3, iv y25_3)]) dX14_readOptions_121 (by decide) rfl ?_
                  refine z_iload hC (pc := 123) 0 dX14_readOptions_123 rfl ?_
                  refine y_if_ge hC (pc := 125) 137 (r_lit rfl) dX14_readOptions_125 (by decide) (fun _ => ?_) (fun c => absurd c (by decide))
                  refine z_aload_n hC (pc := 137) 1 dX14_readOptions_137 rfl rfl ?_
                  refine y_get hC (pc := 138) zf14 rOb_0 7 (v := .ref (κ (rR σ 7))) dX14_readOptions_138 zw2475 (rv_g rfl ((qs47.1.R rfl).trans (kJ.R rfl)) g0) (kk := ?_)
                  refine y_getN hC (pc := 141) zf13 (rOb_k g0) 2 (v := .ref (κ (1000 * ((rR σ 7) + 1) + 2))) dX14_readOptions_141 zw2314 (rv_c rfl) (kk := ?_)
                  refine z_iload_n hC (pc := 144) 2 dX14_readOptions_144 rfl rfl ?_
                  obtain ⟨b178, h⟩ := h
                  refine y_iald hC (pc := 145) (rAr_k g0 rfl rfl) dX14_readOptions_145 b178 (v := (rA s47 (1000 * ((rR σ 7) + 1) + 2) x1)) rfl (kk := ?_)
                  have h := h (Ws47.a _ _)
                  refine z_istore hC (pc := 146) (lv' := [(5, iv (rA s47 (1000 * ((rR σ 7) + 1) + 2) x1)), (4, iv 1), (0, .ref (κ 0)), (1, iv x1), (2, iv y25_2), (3, iv y25_3)]) dX14_readOptions_146 (by decide) rfl ?_
                  have j148 : ∀ (d148 : Nat), ∀ (s148 : rS) (y148_2 : Int) (y148_4 : Int) (y148_5 : Int), rWF s148 → rng y148_2 → rng y148_4 → rng y148_5 → rKeep 0x6c0a3001c00 0x4100001280 0x13c00000000 0x3ee0000d7f 0 σ s148 → inv_X14_readOptions_148 σ x1 gg g (mu_X14_readOptions_25 σ x1 gg g s25 y25_2 y25_3) s148 y148_2 y148_4 y148_5 → (mu_X14_readOptions_148 σ x1 gg g s148 y148_2 y148_4 y148_5) ≤ d148 → zS X G 6 (rW G κ s148) [(0, .ref (κ 0)), (1, iv x1), (2, iv y148_2), (4, iv y148_4), (5, iv y148_5)] 0 0 148 [] := by
                    intro d148
                    induction d148 with
                    | zero =>
                      intro s148 y148_2 y148_4 y148_5 Ws148 hy148_2 hy148_4 hy148_5 kJ hI hmu
                      exact absurd hmu (by have := h_148m (mu_X14_readOptions_25 σ x1 gg g s25 y25_2 y25_3) s148 y148_2 y148_4 y148_5 Ws148 hy148_2 hy148_4 hy148_5 (TPRp.keep kJ rfl rfl rfl) (CCp.keep kJ rfl rfl rfl rfl rfl rfl rfl) (kJ.R rfl) (kJ.F rfl) (kJ.F rfl) (kJ.F rfl) (kJ.F rfl) (kJ.F rfl) (kJ.F rfl) (fun i => kJ.A (f := 26) (by decide) rfl) hI; omega)
                    | succ d148 ih148 =>
                      intro s148 y148_2 y148_4 y148_5 Ws148 hy148_2 hy148_4 hy148_5 kJ hI hmu148
                      have h := h_148 (mu_X14_readOptions_25 σ x1 gg g s25 y25_2 y25_3) s148 y148_2 y148_4 y148_5 Ws148 hy148_2 hy148_4 hy148_5 (TPRp.keep kJ rfl rfl rfl) (CCp.keep kJ rfl rfl rfl rfl rfl rfl rfl) (kJ.R rfl) (kJ.F rfl) (kJ.F rfl) (kJ.F rfl) (kJ.F rfl) (kJ.F rfl) (kJ.F rfl) (fun i => kJ.A (f := 26) (by decide) rfl) hI
                      refine z_iload hC (pc := 148) 4 dX14_readOptions_148 rfl ?_
                      have j199 : ∀ (s199 : rS) (y199_2 : Int) (y199_4 : Int), rWF s199 → rng y199_2 → rng y199_4 → rKeep 0x6c0a3001c00 0x4100001280 0x13c00000000 0x3ee0000d7f 0 σ s199 → inv_X14_readOptions_199 σ x1 gg g (mu_X14_readOptions_25 σ x1 gg g s25 y25_2 y25_3) s199 y199_2 y199_4 → zS X G 6 (rW G κ s199) [(0, .ref (κ 0)), (1, iv x1), (2, iv y199_2), (4, iv y199_4)] 0 0 199 [] := by
                        intro s199 y199_2 y199_4 Ws199 hy199_2 hy199_4 kJ hI
                        have h := h_199 (mu_X14_readOptions_25 σ x1 gg g s25 y25_2 y25_3) s199 y199_2 y199_4 Ws199 hy199_2 hy199_4 (TPRp.keep kJ rfl rfl rfl) (CCp.keep kJ rfl rfl rfl rfl rfl rfl rfl) (kJ.R rfl) (kJ.F rfl) (kJ.F rfl) (kJ.F rfl) (kJ.F rfl) (kJ.F rfl) (kJ.F rfl) (fun i => kJ.A (f := 26) (by decide) rfl) hI
                        refine z_aload_n hC (pc := 199) 0 dX14_readOptions_199 rfl rfl ?_
                        refine y_get hC (pc := 200) zf14 rOb_0 10 (v := iv (rF s199 0 10)) dX14_readOptions_200 zw2478 (rv_i (Or.inl rfl) rfl) (kk := ?_)
                        have h := h (Ws199.f _ _)
                        obtain ⟨hT, hF⟩ := h
                        refine y_if_eq hC (pc := 203) 207 (Ws199.f _ _) dX14_readOptions_203 (by decide) (fun c => ?_) (fun c => ?_)
                        · have h := hT c
                          refine z_aload_n hC (pc := 207) 0 dX14_readOptions_207 rfl rfl ?_
                          refine z_bipush hC (pc := 208) (v := Int32.ofInt 53) dX14_readOptions_208 (by decide) ?_
                          refine z_iload hC (pc := 210) 3 dX14_readOptions_210 rfl ?_
                          refine z_iconst hC (pc := 212) (v := Int32.ofInt 0) dX14_readOptions_212 (by decide) ?_
                          refine z_aload_n hC (pc := 213) 0 dX14_readOptions_213 rfl rfl ?_
                          obtain ⟨p179, h⟩ := h
                          refine y_callVi hC (pc := 214) (As := []) (kX14_place l G κ s199  Ws199  p179) dmX14_place zf14 rOb_0 dX14_readOptions_214 zw3103 rfl rfl (Nat.le_of_ble_eq_true rfl) (Nat.le_of_ble_eq_true rfl) (by omega) (by omega) (Nat.le_of_ble_eq_true rfl) (kk := fun v214 s214 hv214 Ws214 qs214 => ?_)
                          obtain ⟨es214, qs214⟩ := qs214
                          have es214 := es214.symm
                          subst es214
                          have h := h v214 hv214 qs214
                          obtain ⟨p180, h⟩ := h
                          refine y_callVi hC (pc := 217) (As := [iv 53, iv y199_4, iv 0, iv v214]) (kX14_node_t l G κ s199 53 y199_4 0 v214 gg Ws199 (r_lit rfl) hy199_4 (r_lit rfl) hv214 p180) dmX14_node zf14 rOb_0 dX14_readOptions_217 zw3170 rfl rfl (Nat.le_of_ble_eq_true rfl) (Nat.le_of_ble_eq_true rfl) (by omega) (by omega) (Nat.le_of_ble_eq_true rfl) (kk := fun v217 s217 hv217 Ws217 qs217 => ?_)
                          have h := h v217 s217 hv217 Ws217 (rNMp.keep qs217.1 rfl rfl rfl rfl rfl) (TPRp.keep qs217.1 rfl rfl rfl) (WNp.keep qs217.1 rfl rfl rfl rfl rfl) (CCp.keep qs217.1 rfl rfl rfl rfl rfl rfl rfl) (qs217.1.R rfl) (qs217.1.F rfl) (qs217.1.F rfl) (qs217.1.F rfl) (qs217.1.F rfl) (qs217.1.F rfl) (qs217.1.F rfl) (qs217.1.F rfl) (qs217.1.F rfl) (qs217.1.F rfl) (qs217.1.F rfl) (qs217.1.F rfl) (fun i => qs217.1.A (f := 26) (by decide) rfl) (qs217.1.FG g0 rfl) (qs217.1.FG g0 rfl) (qs217.1.FG g0 rfl) (qs217.1.FG g0 rfl) (fz_keep qs217.1 rfl) qs217.2
                          refine z_istore hC (pc := 220) (lv' := [(5, iv v217), (0, .ref (κ 0)), (1, iv x1), (2, iv y199_2), (4, iv y199_4)]) dX14_readOptions_220 (by decide) rfl ?_
                          refine z_aload_n hC (pc := 222) 1 dX14_readOptions_222 rfl rfl ?_
                          refine z_aload_n hC (pc := 223) 1 dX14_readOptions_223 rfl rfl ?_
                          refine y_get hC (pc := 224) zf14 rOb_0 26 (v := .ref (κ 1026)) dX14_readOptions_224 zw2493 (rv_c rfl) (kk := ?_)
                          refine z_aload_n hC (pc := 227) 1 dX14_readOptions_227 rfl rfl ?_
                          refine y_get hC (pc := 228) zf14 rOb_0 28 (v := iv (rF s217 0 28)) dX14_readOptions_228 zw2495 (rv_i (Or.inl rfl) rfl) (kk := ?_)
                          have h := h (Ws217.f _ _)
                          refine z_aload_n hC (pc := 231) 1 dX14_readOptions_231 rfl rfl ?_
                          refine y_get hC (pc := 232) zf14 rOb_0 29 (v := iv (rF s199 0 29)) dX14_readOptions_232 zw2496 (rv_i (Or.inl rfl) ((qs217.1.F rfl).trans rfl)) (kk := ?_)
                          have h := h (Ws199.f _ _)
                          obtain ⟨p181, h⟩ := h
                          refine y_callSi hC (pc := 235) (As := [.ref (κ 1026), iv (rF s217 0 28), iv (rF s199 0 29)]) (kX14_wordEnd_t l G κ s217 1026 4001 (rF s217 0 28) (rF s199 0 29) Ws217 (rAr_m rfl) (Ws217.f _ _) (Ws199.f _ _) p181) dmX14_wordEnd dX14_readOptions_235 zw3009 rfl rfl (Nat.le_of_ble_eq_true rfl) (Nat.le_of_ble_eq_true rfl) (by omega) (by omega) (Nat.le_of_ble_eq_true rfl) (kk := fun v235 s235 hv235 Ws235 qs235 => ?_)
                          obtain ⟨es235, qs235⟩ := qs235
                          have es235 := es235.symm
                          subst es235
                          have h := h v235 hv235 qs235
                          refine y_putI hC (pc := 238) zf14 rOb_0 29 (x := v235) dX14_readOptions_238 zw2496 (Or.inl rfl) rfl rfl (kk := ?_)
                          have W182 := Ws217.sF (q := 0) (f := 29) (x := v235) hv235
                          refine z_aload_n hC (pc := 241) 1 dX14_readOptions_241 rfl rfl ?_
                          obtain ⟨p183, h⟩ := h
                          refine y_callVv hC (pc := 242) (As := []) (kX14_blanks l G κ (sF s217 0 29 v235)  W182  p183) dmX14_blanks zf14 rOb_0 dX14_readOptions_242 zw3119 rfl rfl (Nat.le_of_ble_eq_true rfl) (Nat.le_of_ble_eq_true rfl) (by omega) (by omega) (Nat.le_of_ble_eq_true rfl) (kk := fun s242 Ws242 qs242 => ?_)
                          have h := h s242 Ws242 (rNMp.keep qs242.1 rfl rfl rfl rfl rfl) (TPRp.keep qs242.1 rfl rfl rfl) (WNp.keep qs242.1 rfl rfl rfl rfl rfl) (PNp.keep qs242.1 rfl rfl rfl rfl rfl) (CCp.keep qs242.1 rfl rfl rfl rfl rfl rfl rfl) (qs242.1.R rfl) (qs242.1.F rfl) (qs242.1.F rfl) (qs242.1.F rfl) (qs242.1.F rfl) (qs242.1.F rfl) (qs242.1.F rfl) (qs242.1.F rfl) (qs242.1.F rfl) (qs242.1.F rfl) (qs242.1.F rfl) (fun i => qs242.1.A (f := 26) (by decide) rfl) (qs242.1.FG g0 rfl) (qs242.1.FG g0 rfl) (qs242.1.FG g0 rfl) (qs242.1.FG g0 rfl) (qs242.1.FG g0 rfl) (fz_keep qs242.1 rfl) (RG.keep (c0 := 0) qs242.1 rfl rfl rfl rfl rfl rfl rfl rfl rfl rfl rfl rfl rfl rfl rfl rfl rfl rfl) qs242.2
                          refine z_aload_n hC (pc := 245) 1 dX14_readOptions_245 rfl rfl ?_
                          obtain ⟨p184, h⟩ := h
                          refine y_callVi hC (pc := 246) (As := []) (kX14_here l G κ s242  Ws242  p184) dmX14_here zf14 rOb_0 dX14_readOptions_246 zw3099 rfl rfl (Nat.le_of_ble_eq_true rfl) (Nat.le_of_ble_eq_true rfl) (by omega) (by omega) (Nat.le_of_ble_eq_true rfl) (kk := fun v246 s246 hv246 Ws246 qs246 => ?_)
                          obtain ⟨es246, qs246⟩ := qs246
                          have es246 := es246.symm
                          subst es246
                          have h := h v246 hv246 qs246
                          refine z_bipush hC (pc := 249) (v := Int32.ofInt 61) dX14_readOptions_249 (by decide) ?_
                          obtain ⟨hT, hF⟩ := h
                          refine y_icmp_ne hC (pc := 251) 281 hv246 (r_lit rfl) dX14_readOptions_251 (by decide) (fun c => ?_) (fun c => ?_)
                          · have h := hT c
                            refine z_iload hC (pc := 281) 4 dX14_readOptions_281 rfl ?_
                            refine z_iconst hC (pc := 283) (v := Int32.ofInt 3) dX14_readOptions_283 (by decide) ?_
                            obtain ⟨hT, hF⟩ := h
                            refine y_icmp_ge hC (pc := 284) 296 hy199_4 (r_lit rfl) dX14_readOptions_284 (by decide) (fun c => ?_) (fun c => ?_)
                            · have h := hT c
                              refine z_iload_n hC (pc := 296) 3 dX14_readOptions_296 rfl rfl ?_
                              have j325 : ∀ (s325 : rS) (y325_5 : Int), rWF s325 → rng y325_5 → rKeep 0x6c0a3001c00 0x4100001280 0x13c00000000 0x3ee0000d7f 0 σ s325 → inv_X14_readOptions_325 σ x1 gg g (mu_X14_readOptions_25 σ x1 gg g s25 y25_2 y25_3) s325 y325_5 → zS X G 6 (rW G κ s325) [(0, .ref (κ 0)), (1, iv x1), (5, iv y325_5)] 0 0 325 [] := by
                                intro s325 y325_5 Ws325 hy325_5 kJ hI
                                have h := h_325 (mu_X14_readOptions_25 σ x1 gg g s25 y25_2 y25_3) s325 y325_5 Ws325 hy325_5 (TPRp.keep kJ rfl rfl rfl) (CCp.keep kJ rfl rfl rfl rfl rfl rfl rfl) (kJ.R rfl) (kJ.F rfl) (kJ.F rfl) (kJ.F rfl) (kJ.F rfl) (kJ.F rfl) (kJ.F rfl) (fun i => kJ.A (f := 26) (by decide) rfl) hI
                                refine z_iload hC (pc := 325) 2 dX14_readOptions_325 rfl ?_
                                refine z_istore_n hC (pc := 327) (lv' := [(2, iv y325_5), (0, .ref (κ 0)), (1, iv x1), (5, iv y325_5)]) dX14_readOptions_327 rfl (by decide) rfl ?_
                                refine z_aload_n hC (pc := 328) 1 dX14_readOptions_328 rfl rfl ?_
                                obtain ⟨p185, h⟩ := h
                                refine y_callVv hC (pc := 329) (As := []) (kX14_blanks l G κ s325  Ws325  p185) dmX14_blanks zf14 rOb_0 dX14_readOptions_329 zw3119 rfl rfl (Nat.le_of_ble_eq_true rfl) (Nat.le_of_ble_eq_true rfl) (by omega) (by omega) (Nat.le_of_ble_eq_true rfl) (kk := fun s329 Ws329 qs329 => ?_)
                                have h := h s329 Ws329 (rNMp.keep qs329.1 rfl rfl rfl rfl rfl) (TPRp.keep qs329.1 rfl rfl rfl) (WNp.keep qs329.1 rfl rfl rfl rfl rfl) (PNp.keep qs329.1 rfl rfl rfl rfl rfl) (CCp.keep qs329.1 rfl rfl rfl rfl rfl rfl rfl) (qs329.1.R rfl) (qs329.1.F rfl) (qs329.1.F rfl) (qs329.1.F rfl) (qs329.1.F rfl) (qs329.1.F rfl) (qs329.1.F rfl) (qs329.1.F rfl) (qs329.1.F rfl) (qs329.1.F rfl) (qs329.1.F rfl) (fun i => qs329.1.A (f := 26) (by decide) rfl) (qs329.1.FG g0 rfl) (qs329.1.FG g0 rfl) (qs329.1.FG g0 rfl) (qs329.1.FG g0 rfl) (qs329.1.FG g0 rfl) (fz_keep qs329.1 rfl) (RG.keep (c0 := 0) qs329.1 rfl rfl rfl rfl rfl rfl rfl rfl rfl rfl rfl rfl rfl rfl rfl rfl rfl rfl) qs329.2
                                refine z_aload_n hC (pc := 332) 1 dX14_readOptions_332 rfl rfl ?_
                                obtain ⟨p186, h⟩ := h
                                refine y_callVi hC (pc := 333) (As := []) (kX14_here l G κ s329  Ws329  p186) dmX14_here zf14 rOb_0 dX14_readOptions_333 zw3099 rfl rfl (Nat.le_of_ble_eq_true rfl) (Nat.le_of_ble_eq_true rfl) (by omega) (by omega) (Nat.le_of_ble_eq_true rfl) (kk := fun v333 s333 hv333 Ws333 qs333 => ?_)
                                obtain ⟨es333, qs333⟩ := qs333
                                have es333 := es333.symm
                                subst es333
                                have h := h v333 hv333 qs333
                                refine z_bipush hC (pc := 336) (v := Int32.ofInt 44) dX14_readOptions_336 (by decide) ?_
                                obtain ⟨hT, hF⟩ := h
                                refine y_icmp_ne hC (pc := 338) 345 hv333 (r_lit rfl) dX14_readOptions_338 (by decide) (fun c => ?_) (fun c => ?_)
                                · have h := hT c
                                  refine z_iconst hC (pc := 345) (v := Int32.ofInt 0) dX14_readOptions_345 (by decide) ?_
                                  refine z_istore_n hC (pc := 346) (lv' := [(3, iv 0), (2, iv y325_5), (0, .ref (κ 0)), (1, iv x1), (5, iv y325_5)]) dX14_readOptions_346 rfl (by decide) rfl ?_
                                  refine z_goto hC (pc := 347) 25 dX14_readOptions_347 (by decide) ?_
                                  refine z_lvs [2, 3, 1, 0] rfl ?_
                                  obtain ⟨hI, hm⟩ := h
                                  exact ih25 s329 y325_5 0 Ws329 hy325_5 (r_lit rfl) (rKeep.tr (rKeep.tr rKeep.rf kJ rfl rfl rfl rfl rfl) qs329.1 rfl rfl rfl rfl rfl) hI (by omega)
                                · have h := hF c
                                  refine z_iconst hC (pc := 341) (v := Int32.ofInt 1) dX14_readOptions_341 (by decide) ?_
                                  refine z_goto hC (pc := 342) 346 dX14_readOptions_342 (by decide) ?_
                                  refine z_istore_n hC (pc := 346) (lv' := [(3, iv 1), (2, iv y325_5), (0, .ref (κ 0)), (1, iv x1), (5, iv y325_5)]) dX14_readOptions_346 rfl (by decide) rfl ?_
                                  refine z_goto hC (pc := 347) 25 dX14_readOptions_347 (by decide) ?_
                                  refine z_lvs [2, 3, 1, 0] rfl ?_
                                  obtain ⟨hI, hm⟩ := h
                                  exact ih25 s329 y325_5 1 Ws329 hy325_5 (r_lit rfl) (rKeep.tr (rKeep.tr rKeep.rf kJ rfl rfl rfl rfl rfl) qs329.1 rfl rfl rfl rfl rfl) hI (by omega)
                              obtain ⟨hT, hF⟩ := h
                              refine y_if_ne hC (pc := 297) 314 hy199_2 dX14_readOptions_297 (by decide) (fun c => ?_) (fun c => ?_)
                              · have h := hT c
                                refine z_aload_n hC (pc := 314) 1 dX14_readOptions_314 rfl rfl ?_
                                refine y_get hC (pc := 315) zf14 rOb_0 7 (v := .ref (κ (rR σ 7))) dX14_readOptions_315 zw2475 (rv_g rfl ((qs242.1.R rfl).trans ((qs217.1.R rfl).trans (kJ.R rfl))) g0) (kk := ?_)
                                refine y_getN hC (pc := 318) zf13 (rOb_k g0) 5 (v := .ref (κ (1000 * ((rR σ 7) + 1) + 5))) dX14_readOptions_318 zw2320 (rv_c rfl) (kk := ?_)
                                refine z_iload_n hC (pc := 321) 3 dX14_readOptions_321 rfl rfl ?_
                                refine z_iload hC (pc := 322) 0 dX14_readOptions_322 rfl ?_
                                obtain ⟨b187, h⟩ := h
                                refine y_iast hC (pc := 324) (rAr_k g0 rfl rfl) dX14_readOptions_324 b187 (v := v217) (kk := ?_)
                                have W188 := Ws242.sA (p := (1000 * ((rR σ 7) + 1) + 5)) (i := y199_2) (x := v217) hv217
                                refine z_lvs [1, 2, 0] rfl ?_
                                exact j325 (sT s242 (rR σ 7) 5 y199_2 v217) v217 W188 hv217 (rKeep.tr (rKeep.tr (rKeep.tr (rKeep.tr (rKeep.tr rKeep.rf kJ rfl rfl rfl rfl rfl) qs217.1 rfl rfl rfl rfl rfl) (rKeep.sF0 (f := 29)) rfl rfl rfl rfl rfl) qs242.1 rfl rfl rfl rfl rfl) (rKeep.sAk (f := 5) g0 (by decide)) rfl rfl rfl rfl rfl) h
                              · have h := hF c
                                refine z_aload_n hC (pc := 300) 1 dX14_readOptions_300 rfl rfl ?_
                                refine y_get hC (pc := 301) zf14 rOb_0 7 (v := .ref (κ (rR σ 7))) dX14_readOptions_301 zw2475 (rv_g rfl ((qs242.1.R rfl).trans ((qs217.1.R rfl).trans (kJ.R rfl))) g0) (kk := ?_)
                                refine y_getN hC (pc := 304) zf13 (rOb_k g0) 2 (v := .ref (κ (1000 * ((rR σ 7) + 1) + 2))) dX14_readOptions_304 zw2314 (rv_c rfl) (kk := ?_)
                                refine z_iload_n hC (pc := 307) 2 dX14_readOptions_307 rfl rfl ?_
                                refine z_iload hC (pc := 308) 0 dX14_readOptions_308 rfl ?_
                                obtain ⟨b189, h⟩ := h
                                refine y_iast hC (pc := 310) (rAr_k g0 rfl rfl) dX14_readOptions_310 b189 (v := v217) (kk := ?_)
                                have W190 := Ws242.sA (p := (1000 * ((rR σ 7) + 1) + 2)) (i := x1) (x := v217) hv217
                                refine z_goto hC (pc := 311) 325 dX14_readOptions_311 (by decide) ?_
                                refine z_lvs [1, 2, 0] rfl ?_
                                exact j325 (sT s242 (rR σ 7) 2 x1 v217) v217 W190 hv217 (rKeep.tr (rKeep.tr (rKeep.tr (rKeep.tr (rKeep.tr rKeep.rf kJ rfl rfl rfl rfl rfl) qs217.1 rfl rfl rfl rfl rfl) (rKeep.sF0 (f := 29)) rfl rfl rfl rfl rfl) qs242.1 rfl rfl rfl rfl rfl) (rKeep.sAk (f := 2) g0 (by decide)) rfl rfl rfl rfl rfl) h
                            · have h := hF c
                              refine z_aload_n hC (pc := 287) 1 dX14_readOptions_287 rfl rfl ?_
                              refine z_iconst hC (pc := 288) (v := Int32.ofInt 1) dX14_readOptions_288 (by decide) ?_
                              refine z_aload_n hC (pc := 289) 1 dX14_readOptions_289 rfl rfl ?_
                              obtain ⟨p191, h⟩ := h
                              refine y_callVi hC (pc := 290) (As := []) (kX14_place l G κ s242  Ws242  p191) dmX14_place zf14 rOb_0 dX14_readOptions_290 zw3103 rfl rfl (Nat.le_of_ble_eq_true rfl) (Nat.le_of_ble_eq_true rfl) (by omega) (by omega) (Nat.le_of_ble_eq_true rfl) (kk := fun v290 s290 hv290 Ws290 qs290 => ?_)
                              obtain ⟨es290, qs290⟩ := qs290
                              have es290 := es290.symm
                              subst es290
                              have h := h v290 hv290 qs290
                              obtain ⟨p192, h⟩ := h
                              refine y_callVv hC (pc := 293) (As := [iv 1, iv v290]) (kX14_bad l G κ s242 1 v290 Ws242 (r_lit rfl) hv290 p192) dmX14_bad zf14 rOb_0 dX14_readOptions_293 zw3000 rfl rfl (Nat.le_of_ble_eq_true rfl) (Nat.le_of_ble_eq_true rfl) (by omega) (by omega) (Nat.le_of_ble_eq_true rfl) (kk := fun s293 Ws293 qs293 => ?_)
                              have h := h s293 Ws293 (rNMp.keep qs293.1 rfl rfl rfl rfl rfl) (TPRp.keep qs293.1 rfl rfl rfl) (WNp.keep qs293.1 rfl rfl rfl rfl rfl) (PNp.keep qs293.1 rfl rfl rfl rfl rfl) (CCp.keep qs293.1 rfl rfl rfl rfl rfl rfl rfl) (qs293.1.R rfl) (qs293.1.F rfl) (qs293.1.F rfl) (qs293.1.F rfl) (qs293.1.F rfl) (qs293.1.F rfl) (qs293.1.F rfl) (qs293.1.F rfl) (qs293.1.F rfl) (qs293.1.F rfl) (qs293.1.F rfl) (fun i => qs293.1.A (f := 26) (by decide) rfl) (qs293.1.FG g0 rfl) (qs293.1.FG g0 rfl) (qs293.1.FG g0 rfl) (qs293.1.FG g0 rfl) (qs293.1.FG g0 rfl) (RG.keep (c0 := 0) qs293.1 rfl rfl rfl rfl rfl rfl rfl rfl rfl rfl rfl rfl rfl rfl rfl rfl rfl rfl) qs293.2
                              refine z_iload_n hC (pc := 296) 3 dX14_readOptions_296 rfl rfl ?_
                              have j325 : ∀ (s325 : rS) (y325_5 : Int), rWF s325 → rng y325_5 → rKeep 0x6c0a3001c00 0x4100001280 0x13c00000000 0x3ee0000d7f 0 σ s325 → inv_X14_readOptions_325 σ x1 gg g (mu_X14_readOptions_25 σ x1 gg g s25 y25_2 y25_3) s325 y325_5 → zS X G 6 (rW G κ s325) [(0, .ref (κ 0)), (1, iv x1), (5, iv y325_5)] 0 0 325 [] := by
                                intro s325 y325_5 Ws325 hy325_5 kJ hI
                                have h := h_325 (mu_X14_readOptions_25 σ x1 gg g s25 y25_2 y25_3) s325 y325_5 Ws325 hy325_5 (TPRp.keep kJ rfl rfl rfl) (CCp.keep kJ rfl rfl rfl rfl rfl rfl rfl) (kJ.R rfl) (kJ.F rfl) (kJ.F rfl) (kJ.F rfl) (kJ.F rfl) (kJ.F rfl) (kJ.F rfl) (fun i => kJ.A (f := 26) (by decide) rfl) hI
                                refine z_iload hC (pc := 325) 2 dX14_readOptions_325 rfl ?_
                                refine z_istore_n hC (pc := 327) (lv' := [(2, iv y325_5), (0, .ref (κ 0)), (1, iv x1), (5, iv y325_5)]) dX14_readOptions_327 rfl (by decide) rfl ?_
                                refine z_aload_n hC (pc := 328) 1 dX14_readOptions_328 rfl rfl ?_
                                obtain ⟨p193, h⟩ := h
                                refine y_callVv hC (pc := 329) (As := []) (kX14_blanks l G κ s325  Ws325  p193) dmX14_blanks zf14 rOb_0 dX14_readOptions_329 zw3119 rfl rfl (Nat.le_of_ble_eq_true rfl) (Nat.le_of_ble_eq_true rfl) (by omega) (by omega) (Nat.le_of_ble_eq_true rfl) (kk := fun s329 Ws329 qs329 => ?_)
                                have h := h s329 Ws329 (rNMp.keep qs329.1 rfl rfl rfl rfl rfl) (TPRp.keep qs329.1 rfl rfl rfl) (WNp.keep qs329.1 rfl rfl rfl rfl rfl) (PNp.keep qs329.1 rfl rfl rfl rfl rfl) (CCp.keep qs329.1 rfl rfl rfl rfl rfl rfl rfl) (qs329.1.R rfl) (qs329.1.F rfl) (qs329.1.F rfl) (qs329.1.F rfl) (qs329.1.F rfl) (qs329.1.F rfl) (qs329.1.F rfl) (qs329.1.F rfl) (qs329.1.F rfl) (qs329.1.F rfl) (qs329.1.F rfl) (fun i => qs329.1.A (f := 26) (by decide) rfl) (qs329.1.FG g0 rfl) (qs329.1.FG g0 rfl) (qs329.1.FG g0 rfl) (qs329.1.FG g0 rfl) (qs329.1.FG g0 rfl) (fz_keep qs329.1 rfl) (RG.keep (c0 := 0) qs329.1 rfl rfl rfl rfl rfl rfl rfl rfl rfl rfl rfl rfl rfl rfl rfl rfl rfl rfl) qs329.2
                                refine z_aload_n hC (pc := 332) 1 dX14_readOptions_332 rfl rfl ?_
                                obtain ⟨p194, h⟩ := h
                                refine y_callVi hC (pc := 333) (As := []) (kX14_here l G κ s329  Ws329  p194) dmX14_here zf14 rOb_0 dX14_readOptions_333 zw3099 rfl rfl (Nat.le_of_ble_eq_true rfl) (Nat.le_of_ble_eq_true rfl) (by omega) (by omega) (Nat.le_of_ble_eq_true rfl) (kk := fun v333 s333 hv333 Ws333 qs333 => ?_)
                                obtain ⟨es333, qs333⟩ := qs333
                                have es333 := es333.symm
                                subst es333
                                have h := h v333 hv333 qs333
                                refine z_bipush hC (pc := 336) (v := Int32.ofInt 44) dX14_readOptions_336 (by decide) ?_
                                obtain ⟨hT, hF⟩ := h
                                refine y_icmp_ne hC (pc := 338) 345 hv333 (r_lit rfl) dX14_readOptions_338 (by decide) (fun c => ?_) (fun c => ?_)
                                · have h := hT c
                                  refine z_iconst hC (pc := 345) (v := Int32.ofInt 0) dX14_readOptions_345 (by decide) ?_
                                  refine z_istore_n hC (pc := 346) (lv' := [(3, iv 0), (2, iv y325_5), (0, .ref (κ 0)), (1, iv x1), (5, iv y325_5)]) dX14_readOptions_346 rfl (by decide) rfl ?_
                                  refine z_goto hC (pc := 347) 25 dX14_readOptions_347 (by decide) ?_
                                  refine z_lvs [2, 3, 1, 0] rfl ?_
                                  obtain ⟨hI, hm⟩ := h
                                  exact ih25 s329 y325_5 0 Ws329 hy325_5 (r_lit rfl) (rKeep.tr (rKeep.tr rKeep.rf kJ rfl rfl rfl rfl rfl) qs329.1 rfl rfl rfl rfl rfl) hI (by omega)
                                · have h := hF c
                                  refine z_iconst hC (pc := 341) (v := Int32.ofInt 1) dX14_readOptions_341 (by decide) ?_
                                  refine z_goto hC (pc := 342) 346 dX14_readOptions_342 (by decide) ?_
                                  refine z_istore_n hC (pc := 346) (lv' := [(3, iv 1), (2, iv y325_5), (0, .ref (κ 0)), (1, iv x1), (5, iv y325_5)]) dX14_readOptions_346 rfl (by decide) rfl ?_
                                  refine z_goto hC (pc := 347) 25 dX14_readOptions_347 (by decide) ?_
                                  refine z_lvs [2, 3, 1, 0] rfl ?_
                                  obtain ⟨hI, hm⟩ := h
                                  exact ih25 s329 y325_5 1 Ws329 hy325_5 (r_lit rfl) (rKeep.tr (rKeep.tr rKeep.rf kJ rfl rfl rfl rfl rfl) qs329.1 rfl rfl rfl rfl rfl) hI (by omega)
                              obtain ⟨hT, hF⟩ := h
                              refine y_if_ne hC (pc := 297) 314 hy199_2 dX14_readOptions_297 (by decide) (fun c => ?_) (fun c => ?_)
                              · have h := hT c
                                refine z_aload_n hC (pc := 314) 1 dX14_readOptions_314 rfl rfl ?_
                                refine y_get hC (pc := 315) zf14 rOb_0 7 (v := .ref (κ (rR σ 7))) dX14_readOptions_315 zw2475 (rv_g rfl ((qs293.1.R rfl).trans ((qs242.1.R rfl).trans ((qs217.1.R rfl).trans (kJ.R rfl)))) g0) (kk := ?_)
                                refine y_getN hC (pc := 318) zf13 (rOb_k g0) 5 (v := .ref (κ (1000 * ((rR σ 7) + 1) + 5))) dX14_readOptions_318 zw2320 (rv_c rfl) (kk := ?_)
                                refine z_iload_n hC (pc := 321) 3 dX14_readOptions_321 rfl rfl ?_
                                refine z_iload hC (pc := 322) 0 dX14_readOptions_322 rfl ?_
                                obtain ⟨b195, h⟩ := h
                                refine y_iast hC (pc := 324) (rAr_k g0 rfl rfl) dX14_readOptions_324 b195 (v := v217) (kk := ?_)
                                have W196 := Ws293.sA (p := (1000 * ((rR σ 7) + 1) + 5)) (i := y199_2) (x := v217) hv217
                                refine z_lvs [1, 2, 0] rfl ?_
                                exact j325 (sT s293 (rR σ 7) 5 y199_2 v217) v217 W196 hv217 (rKeep.tr (rKeep.tr (rKeep.tr (rKeep.tr (rKeep.tr (rKeep.tr rKeep.rf kJ rfl rfl rfl rfl rfl) qs217.1 rfl rfl rfl rfl rfl) (rKeep.sF0 (f := 29)) rfl rfl rfl rfl rfl) qs242.1 rfl rfl rfl rfl rfl) qs293.1 rfl rfl rfl rfl rfl) (rKeep.sAk (f := 5) g0 (by decide)) rfl rfl rfl rfl rfl) h
                              · have h := hF c
                                refine z_aload_n hC (pc := 300) 1 dX14_readOptions_300 rfl rfl ?_
                                refine y_get hC (pc := 301) zf14 rOb_0 7 (v := .ref (κ (rR σ 7))) dX14_readOptions_301 zw2475 (rv_g rfl ((qs293.1.R rfl).trans ((qs242.1.R rfl).trans ((qs217.1.R rfl).trans (kJ.R rfl)))) g0) (kk := ?_)
                                refine y_getN hC (pc := 304) zf13 (rOb_k g0) 2 (v := .ref (κ (1000 * ((rR σ 7) + 1) + 2))) dX14_readOptions_304 zw2314 (rv_c rfl) (kk := ?_)
                                refine z_iload_n hC (pc := 307) 2 dX14_readOptions_307 rfl rfl ?_
                                refine z_iload hC (pc := 308) 0 dX14_readOptions_308 rfl ?_
                                obtain ⟨b197, h⟩ := h
                                refine y_iast hC (pc := 310) (rAr_k g0 rfl rfl) dX14_readOptions_310 b197 (v := v217) (kk := ?_)
                                have W198 := Ws293.sA (p := (1000 * ((rR σ 7) + 1) + 2)) (i := x1) (x := v217) hv217
                                refine z_goto hC (pc := 311) 325 dX14_readOptions_311 (by decide) ?_
                                refine z_lvs [1, 2, 0] rfl ?_
                                exact j325 (sT s293 (rR σ 7) 2 x1 v217) v217 W198 hv217 (rKeep.tr (rKeep.tr (rKeep.tr (rKeep.tr (rKeep.tr (rKeep.tr rKeep.rf kJ rfl rfl rfl rfl rfl) qs217.1 rfl rfl rfl rfl rfl) (rKeep.sF0 (f := 29)) rfl rfl rfl rfl rfl) qs242.1 rfl rfl rfl rfl rfl) qs293.1 rfl rfl rfl rfl rfl) (rKeep.sAk (f := 2) g0 (by decide)) rfl rfl rfl rfl rfl) h
                          · have h := hF c
                            refine z_aload_n hC (pc := 254) 1 dX14_readOptions_254 rfl rfl ?_
                            refine z_dup hC (pc := 255) dX14_readOptions_255 rfl ?_
                            refine y_get hC (pc := 256) zf14 rOb_0 29 (v := iv (rF s242 0 29)) dX14_readOptions_256 zw2496 (rv_i (Or.inl rfl) rfl) (kk := ?_)
                            have h := h (Ws242.f _ _)
                            refine z_iconst hC (pc := 259) (v := Int32.ofInt 1) dX14_readOptions_259 (by decide) ?_
                            refine y_iadd hC (pc := 260) (v := ((rF s242 0 29) + 1)) dX14_readOptions_260 rfl ?_
                            obtain ⟨r199, h⟩ := h
                            refine y_putI hC (pc := 261) zf14 rOb_0 29 (x := ((rF s242 0 29) + 1)) dX14_readOptions_261 zw2496 (Or.inl rfl) rfl rfl (kk := ?_)
                            have W200 := Ws242.sF (q := 0) (f := 29) (x := ((rF s242 0 29) + 1)) r199
                            refine z_aload_n hC (pc := 264) 1 dX14_readOptions_264 rfl rfl ?_
                            refine y_get hC (pc := 265) zf14 rOb_0 7 (v := .ref (κ (rR σ 7))) dX14_readOptions_265 zw2475 (rv_g rfl ((qs242.1.R rfl).trans ((qs217.1.R rfl).trans (kJ.R rfl))) g0) (kk := ?_)
                            refine y_getN hC (pc := 268) zf13 (rOb_k g0) 2 (v := .ref (κ (1000 * ((rR σ 7) + 1) + 2))) dX14_readOptions_268 zw2314 (rv_c rfl) (kk := ?_)
                            refine z_iload hC (pc := 271) 0 dX14_readOptions_271 rfl ?_
                            refine z_aload_n hC (pc := 273) 1 dX14_readOptions_273 rfl rfl ?_
                            obtain ⟨g201, h⟩ := h
                            obtain ⟨p202, h⟩ := h
                            obtain ⟨p203, h⟩ := h
                            refine y_callVi hC (pc := 274) (As := []) (qX14_readArg ih (sF s242 0 29 ((rF s242 0 29) + 1)) gg g201 W200  p202 p203) dmX14_readArg zf14 rOb_0 dX14_readOptions_274 zw3234 rfl rfl (Nat.le_of_ble_eq_true rfl) (Nat.le_of_ble_eq_true rfl) (by omega) (by omega) (Nat.le_of_ble_eq_true rfl) (kk := fun v274 s274 hv274 Ws274 qs274 => ?_)
                            have h := h v274 s274 hv274 Ws274 (TPRp.keep qs274.1 rfl rfl rfl) (CCp.keep qs274.1 rfl rfl rfl rfl rfl rfl rfl) (qs274.1.R rfl) (qs274.1.F rfl) (qs274.1.F rfl) (qs274.1.F rfl) (qs274.1.F rfl) (qs274.1.F rfl) (qs274.1.F rfl) (fun i => qs274.1.A (f := 26) (by decide) rfl) qs274.2
                            obtain ⟨b204, h⟩ := h
                            refine y_iast hC (pc := 277) (rAr_k g0 rfl rfl) dX14_readOptions_277 b204 (v := v274) (kk := ?_)
                            have W205 := Ws274.sA (p := (1000 * ((rR σ 7) + 1) + 2)) (i := v217) (x := v274) hv274
                            refine z_goto hC (pc := 278) 296 dX14_readOptions_278 (by decide) ?_
                            refine z_iload_n hC (pc := 296) 3 dX14_readOptions_296 rfl rfl ?_
                            have j325 : ∀ (s325 : rS) (y325_5 : Int), rWF s325 → rng y325_5 → rKeep 0x6c0a3001c00 0x4100001280 0x13c00000000 0x3ee0000d7f 0 σ s325 → inv_X14_readOptions_325 σ x1 gg g (mu_X14_readOptions_25 σ x1 gg g s25 y25_2 y25_3) s325 y325_5 → zS X G 6 (rW G κ s325) [(0, .ref (κ 0)), (1, iv x1), (5, iv y325_5)] 0 0 325 [] := by
                              intro s325 y325_5 Ws325 hy325_5 kJ hI
                              have h := h_325 (mu_X14_readOptions_25 σ x1 gg g s25 y25_2 y25_3) s325 y325_5 Ws325 hy325_5 (TPRp.keep kJ rfl rfl rfl) (CCp.keep kJ rfl rfl rfl rfl rfl rfl rfl) (kJ.R rfl) (kJ.F rfl) (kJ.F rfl) (kJ.F rfl) (kJ.F rfl) (kJ.F rfl) (kJ.F rfl) (fun i => kJ.A (f := 26) (by decide) rfl) hI
                              refine z_iload hC (pc := 325) 2 dX14_readOptions_325 rfl ?_
                              refine z_istore_n hC (pc := 327) (lv' := [(2, iv y325_5), (0, .ref (κ 0)), (1, iv x1), (5, iv y325_5)]) dX14_readOptions_327 rfl (by decide) rfl ?_
                              refine z_aload_n hC (pc := 328) 1 dX14_readOptions_328 rfl rfl ?_
                              obtain ⟨p206, h⟩ := h
                              refine y_callVv hC (pc := 329) (As := []) (kX14_blanks l G κ s325  Ws325  p206) dmX14_blanks zf14 rOb_0 dX14_readOptions_329 zw3119 rfl rfl (Nat.le_of_ble_eq_true rfl) (Nat.le_of_ble_eq_true rfl) (by omega) (by omega) (Nat.le_of_ble_eq_true rfl) (kk := fun s329 Ws329 qs329 => ?_)
                              have h := h s329 Ws329 (rNMp.keep qs329.1 rfl rfl rfl rfl rfl) (TPRp.keep qs329.1 rfl rfl rfl) (WNp.keep qs329.1 rfl rfl rfl rfl rfl) (PNp.keep qs329.1 rfl rfl rfl rfl rfl) (CCp.keep qs329.1 rfl rfl rfl rfl rfl rfl rfl) (qs329.1.R rfl) (qs329.1.F rfl) (qs329.1.F rfl) (qs329.1.F rfl) (qs329.1.F rfl) (qs329.1.F rfl) (qs329.1.F rfl) (qs329.1.F rfl) (qs329.1.F rfl) (qs329.1.F rfl) (qs329.1.F rfl) (fun i => qs329.1.A (f := 26) (by decide) rfl) (qs329.1.FG g0 rfl) (qs329.1.FG g0 rfl) (qs329.1.FG g0 rfl) (qs329.1.FG g0 rfl) (qs329.1.FG g0 rfl) (fz_keep qs329.1 rfl) (RG.keep (c0 := 0) qs329.1 rfl rfl rfl rfl rfl rfl rfl rfl rfl rfl rfl rfl rfl rfl rfl rfl rfl rfl) qs329.2
                              refine z_aload_n hC (pc := 332) 1 dX14_readOptions_332 rfl rfl ?_
                              obtain ⟨p207, h⟩ := h
                              refine y_callVi hC (pc := 333) (As := []) (kX14_here l G κ s329  Ws329  p207) dmX14_here zf14 rOb_0 dX14_readOptions_333 zw3099 rfl rfl (Nat.le_of_ble_eq_true rfl) (Nat.le_of_ble_eq_true rfl) (by omega) (by omega) (Nat.le_of_ble_eq_true rfl) (kk := fun v333 s333 hv333 Ws333 qs333 => ?_)
                              obtain ⟨es333, qs333⟩ := qs333
                              have es333 := es333.symm
                              subst es333
                              have h := h v333 hv333 qs333
                              refine z_bipush hC (pc := 336) (v := Int32.ofInt 44) dX14_readOptions_336 (by decide) ?_
                              obtain ⟨hT, hF⟩ := h
                              refine y_icmp_ne hC (pc := 338) 345 hv333 (r_lit rfl) dX14_readOptions_338 (by decide) (fun c => ?_) (fun c => ?_)
                              · have h := hT c
                                refine z_iconst hC (pc := 345) (v := Int32.ofInt 0) dX14_readOptions_345 (by decide) ?_
                                refine z_istore_n hC (pc := 346) (lv' := [(3, iv 0), (2, iv y325_5), (0, .ref (κ 0)), (1, iv x1), (5, iv y325_5)]) dX14_readOptions_346 rfl (by decide) rfl ?_
                                refine z_goto hC (pc := 347) 25 dX14_readOptions_347 (by decide) ?_
                                refine z_lvs [2, 3, 1, 0] rfl ?_
                                obtain ⟨hI, hm⟩ := h
                                exact ih25 s329 y325_5 0 Ws329 hy325_5 (r_lit rfl) (rKeep.tr (rKeep.tr rKeep.rf kJ rfl rfl rfl rfl rfl) qs329.1 rfl rfl rfl rfl rfl) hI (by omega)
                              · have h := hF c
                                refine z_iconst hC (pc := 341) (v := Int32.ofInt 1) dX14_readOptions_341 (by decide) ?_
                                refine z_goto hC (pc := 342) 346 dX14_readOptions_342 (by decide) ?_
                                refine z_istore_n hC (pc := 346) (lv' := [(3, iv 1), (2, iv y325_5), (0, .ref (κ 0)), (1, iv x1), (5, iv y325_5)]) dX14_readOptions_346 rfl (by decide) rfl ?_
                                refine z_goto hC (pc := 347) 25 dX14_readOptions_347 (by decide) ?_
                                refine z_lvs [2, 3, 1, 0] rfl ?_
                                obtain ⟨hI, hm⟩ := h
                                exact ih25 s329 y325_5 1 Ws329 hy325_5 (r_lit rfl) (rKeep.tr (rKeep.tr rKeep.rf kJ rfl rfl rfl rfl rfl) qs329.1 rfl rfl rfl rfl rfl) hI (by omega)
                            obtain ⟨hT, hF⟩ := h
                            refine y_if_ne hC (pc := 297) 314 hy199_2 dX14_readOptions_297 (by decide) (fun c => ?_) (fun c => ?_)
                            · have h := hT c
                              refine z_aload_n hC (pc := 314) 1 dX14_readOptions_314 rfl rfl ?_
                              refine y_get hC (pc := 315) zf14 rOb_0 7 (v := .ref (κ (rR σ 7))) dX14_readOptions_315 zw2475 (rv_g rfl ((qs274.1.R rfl).trans ((qs242.1.R rfl).trans ((qs217.1.R rfl).trans (kJ.R rfl)))) g0) (kk := ?_)
                              refine y_getN hC (pc := 318) zf13 (rOb_k g0) 5 (v := .ref (κ (1000 * ((rR σ 7) + 1) + 5))) dX14_readOptions_318 zw2320 (rv_c rfl) (kk := ?_)
                              refine z_iload_n hC (pc := 321) 3 dX14_readOptions_321 rfl rfl ?_
                              refine z_iload hC (pc := 322) 0 dX14_readOptions_322 rfl ?_
                              obtain ⟨b208, h⟩ := h
                              refine y_iast hC (pc := 324) (rAr_k g0 rfl rfl) dX14_readOptions_324 b208 (v := v217) (kk := ?_)
                              have W209 := W205.sA (p := (1000 * ((rR σ 7) + 1) + 5)) (i := y199_2) (x := v217) hv217
                              refine z_lvs [1, 2, 0] rfl ?_
                              exact j325 (sT (sT s274 (rR σ 7) 2 v217 v274) (rR σ 7) 5 y199_2 v217) v217 W209 hv217 (rKeep.tr (rKeep.tr (rKeep.tr (rKeep.tr (rKeep.tr (rKeep.tr (rKeep.tr (rKeep.tr rKeep.rf kJ rfl rfl rfl rfl rfl) qs217.1 rfl rfl rfl rfl rfl) (rKeep.sF0 (f := 29)) rfl rfl rfl rfl rfl) qs242.1 rfl rfl rfl rfl rfl) (rKeep.sF0 (f := 29)) rfl rfl rfl rfl rfl) qs274.1 rfl rfl rfl rfl rfl) (rKeep.sAk (f := 2) g0 (by decide)) rfl rfl rfl rfl rfl) (rKeep.sAk (f := 5) g0 (by decide)) rfl rfl rfl rfl rfl) h
                            · have h := hF c
                              refine z_aload_n hC (pc := 300) 1 dX14_readOptions_300 rfl rfl ?_
                              refine y_get hC (pc := 301) zf14 rOb_0 7 (v := .ref (κ (rR σ 7))) dX14_readOptions_301 zw2475 (rv_g rfl ((qs274.1.R rfl).trans ((qs242.1.R rfl).trans ((qs217.1.R rfl).trans (kJ.R rfl)))) g0) (kk := ?_)
                              refine y_getN hC (pc := 304) zf13 (rOb_k g0) 2 (v := .ref (κ (1000 * ((rR σ 7) + 1) + 2))) dX14_readOptions_304 zw2314 (rv_c rfl) (kk := ?_)
                              refine z_iload_n hC (pc := 307) 2 dX14_readOptions_307 rfl rfl ?_
                              refine z_iload hC (pc := 308) 0 dX14_readOptions_308 rfl ?_
                              obtain ⟨b210, h⟩ := h
                              refine y_iast hC (pc := 310) (rAr_k g0 rfl rfl) dX14_readOptions_310 b210 (v := v217) (kk := ?_)
                              have W211 := W205.sA (p := (1000 * ((rR σ 7) + 1) + 2)) (i := x1) (x := v217) hv217
                              refine z_goto hC (pc := 311) 325 dX14_readOptions_311 (by decide) ?_
                              refine z_lvs [1, 2, 0] rfl ?_
                              exact j325 (sT (sT s274 (rR σ 7) 2 v217 v274) (rR σ 7) 2 x1 v217) v217 W211 hv217 (rKeep.tr (rKeep.tr (rKeep.tr (rKeep.tr (rKeep.tr (rKeep.tr (rKeep.tr (rKeep.tr rKeep.rf kJ rfl rfl rfl rfl rfl) qs217.1 rfl rfl rfl rfl rfl) (rKeep.sF0 (f := 29)) rfl rfl rfl rfl rfl) qs242.1 rfl rfl rfl rfl rfl) (rKeep.sF0 (f := 29)) rfl rfl rfl rfl rfl) qs274.1 rfl rfl rfl rfl rfl) (rKeep.sAk (f := 2) g0 (by decide)) rfl rfl rfl rfl rfl) (rKeep.sAk (f := 2) g0 (by decide)) rfl rfl rfl rfl rfl) h
                        · have h := hF c
                          exact y_retv hR dX14_readOptions_206 Ws199 (Nat.le_of_ble_eq_true rfl) (Nat.le_of_ble_eq_true rfl) ⟨(rKeep.tr rKeep.rf kJ rfl rfl rfl rfl rfl), h⟩
                      obtain ⟨hT, hF⟩ := h
                      refine y_if_eq hC (pc := 150) 199 hy148_5 dX14_readOptions_150 (by decide) (fun c => ?_) (fun c => ?_)
                      · have h := hT c
                        refine z_lvs [0, 1, 2, 3] rfl ?_
                        exact j199 s148 y148_2 y148_4 Ws148 hy148_2 hy148_4 (rKeep.tr rKeep.rf kJ rfl rfl rfl rfl rfl) h
                      · have h := hF c
                        refine z_aload_n hC (pc := 153) 0 dX14_readOptions_153 rfl rfl ?_
                        refine y_get hC (pc := 154) zf14 rOb_0 10 (v := iv (rF s148 0 10)) dX14_readOptions_154 zw2478 (rv_i (Or.inl rfl) rfl) (kk := ?_)
                        have h := h (Ws148.f _ _)
                        obtain ⟨hT, hF⟩ := h
                        refine y_if_ne hC (pc := 157) 199 (Ws148.f _ _) dX14_readOptions_157 (by decide) (fun c => ?_) (fun c => ?_)
                        · have h := hT c
                          refine z_lvs [0, 1, 2, 3] rfl ?_
                          exact j199 s148 y148_2 y148_4 Ws148 hy148_2 hy148_4 (rKeep.tr rKeep.rf kJ rfl rfl rfl rfl rfl) h
                        · have h := hF c
                          refine z_aload_n hC (pc := 160) 0 dX14_readOptions_160 rfl rfl ?_
                          refine y_get hC (pc := 161) zf14 rOb_0 7 (v := .ref (κ (rR σ 7))) dX14_readOptions_161 zw2475 (rv_g rfl (kJ.R rfl) g0) (kk := ?_)
                          refine y_getN hC (pc := 164) zf13 (rOb_k g0) 1 (v := .ref (κ (1000 * ((rR σ 7) + 1) + 1))) dX14_readOptions_164 zw2312 (rv_c rfl) (kk := ?_)
                          refine z_iload hC (pc := 167) 4 dX14_readOptions_167 rfl ?_
                          obtain ⟨b212, h⟩ := h
                          refine y_iald hC (pc := 169) (rAr_k g0 rfl rfl) dX14_readOptions_169 b212 (v := (rA s148 (1000 * ((rR σ 7) + 1) + 1) y148_5)) rfl (kk := ?_)
                          have h := h (Ws148.a _ _)
                          refine z_iload hC (pc := 170) 3 dX14_readOptions_170 rfl ?_
                          obtain ⟨hT, hF⟩ := h
                          refine y_icmp_ne hC (pc := 172) 184 (Ws148.a _ _) hy148_4 dX14_readOptions_172 (by decide) (fun c => ?_) (fun c => ?_)
                          · have h := hT c
                            refine z_aload_n hC (pc := 184) 0 dX14_readOptions_184 rfl rfl ?_
                            refine y_get hC (pc := 185) zf14 rOb_0 7 (v := .ref (κ (rR σ 7))) dX14_readOptions_185 zw2475 (rv_g rfl (kJ.R rfl) g0) (kk := ?_)
                            refine y_getN hC (pc := 188) zf13 (rOb_k g0) 5 (v := .ref (κ (1000 * ((rR σ 7) + 1) + 5))) dX14_readOptions_188 zw2320 (rv_c rfl) (kk := ?_)
                            refine z_iload hC (pc := 191) 4 dX14_readOptions_191 rfl ?_
                            obtain ⟨b213, h⟩ := h
                            refine y_iald hC (pc := 193) (rAr_k g0 rfl rfl) dX14_readOptions_193 b213 (v := (rA s148 (1000 * ((rR σ 7) + 1) + 5) y148_5)) rfl (kk := ?_)
                            have h := h (Ws148.a _ _)
                            refine z_istore hC (pc := 194) (lv' := [(5, iv (rA s148 (1000 * ((rR σ 7) + 1) + 5) y148_5)), (0, .ref (κ 0)), (1, iv x1), (2, iv y148_2), (4, iv y148_4)]) dX14_readOptions_194 (by decide) rfl ?_
                            refine z_goto hC (pc := 196) 148 dX14_readOptions_196 (by decide) ?_
                            refine z_lvs [1, 2, 3, 4, 0] rfl ?_
                            obtain ⟨hI, hm⟩ := h
                            exact ih148 s148 y148_2 y148_4 (rA s148 (1000 * ((rR σ 7) + 1) + 5) y148_5) Ws148 hy148_2 hy148_4 (Ws148.a _ _) (rKeep.tr rKeep.rf kJ rfl rfl rfl rfl rfl) hI (by omega)
                          · have h := hF c
                            refine z_aload_n hC (pc := 175) 0 dX14_readOptions_175 rfl rfl ?_
                            refine z_iconst hC (pc := 176) (v := Int32.ofInt 3) dX14_readOptions_176 (by decide) ?_
                            refine z_aload_n hC (pc := 177) 0 dX14_readOptions_177 rfl rfl ?_
                            obtain ⟨p214, h⟩ := h
                            refine y_callVi hC (pc := 178) (As := []) (kX14_place l G κ s148  Ws148  p214) dmX14_place zf14 rOb_0 dX14_readOptions_178 zw3103 rfl rfl (Nat.le_of_ble_eq_true rfl) (Nat.le_of_ble_eq_true rfl) (by omega) (by omega) (Nat.le_of_ble_eq_true rfl) (kk := fun v178 s178 hv178 Ws178 qs178 => ?_)
                            obtain ⟨es178, qs178⟩ := qs178
                            have es178 := es178.symm
                            subst es178
                            have h := h v178 hv178 qs178
                            obtain ⟨p215, h⟩ := h
                            refine y_callVv hC (pc := 181) (As := [iv 3, iv v178]) (kX14_bad l G κ s148 3 v178 Ws148 (r_lit rfl) hv178 p215) dmX14_bad zf14 rOb_0 dX14_readOptions_181 zw3000 rfl rfl (Nat.le_of_ble_eq_true rfl) (Nat.le_of_ble_eq_true rfl) (by omega) (by omega) (Nat.le_of_ble_eq_true rfl) (kk := fun s181 Ws181 qs181 => ?_)
                            have h := h s181 Ws181 (rNMp.keep qs181.1 rfl rfl rfl rfl rfl) (TPRp.keep qs181.1 rfl rfl rfl) (WNp.keep qs181.1 rfl rfl rfl rfl rfl) (PNp.keep qs181.1 rfl rfl rfl rfl rfl) (CCp.keep qs181.1 rfl rfl rfl rfl rfl rfl rfl) (qs181.1.R rfl) (qs181.1.F rfl) (qs181.1.F rfl) (qs181.1.F rfl) (qs181.1.F rfl) (qs181.1.F rfl) (qs181.1.F rfl) (qs181.1.F rfl) (qs181.1.F rfl) (qs181.1.F rfl) (qs181.1.F rfl) (fun i => qs181.1.A (f := 26) (by decide) rfl) (qs181.1.FG g0 rfl) (qs181.1.FG g0 rfl) (qs181.1.FG g0 rfl) (qs181.1.FG g0 rfl) (qs181.1.FG g0 rfl) (RG.keep (c0 := 0) qs181.1 rfl rfl rfl rfl rfl rfl rfl rfl rfl rfl rfl rfl rfl rfl rfl rfl rfl rfl) qs181.2
                            refine z_aload_n hC (pc := 184) 0 dX14_readOptions_184 rfl rfl ?_
                            refine y_get hC (pc := 185) zf14 rOb_0 7 (v := .ref (κ (rR σ 7))) dX14_readOptions_185 zw2475 (rv_g rfl ((qs181.1.R rfl).trans (kJ.R rfl)) g0) (kk := ?_)
                            refine y_getN hC (pc := 188) zf13 (rOb_k g0) 5 (v := .ref (κ (1000 * ((rR σ 7) + 1) + 5))) dX14_readOptions_188 zw2320 (rv_c rfl) (kk := ?_)
                            refine z_iload hC (pc := 191) 4 dX14_readOptions_191 rfl ?_
                            obtain ⟨b216, h⟩ := h
                            refine y_iald hC (pc := 193) (rAr_k g0 rfl rfl) dX14_readOptions_193 b216 (v := (rA s181 (1000 * ((rR σ 7) + 1) + 5) y148_5)) rfl (kk := ?_)
                            have h := h (Ws181.a _ _)
                            refine z_istore hC (pc := 194) (lv' := [(5, iv (rA s181 (1000 * ((rR σ 7) + 1) + 5) y148_5)), (0, .ref (κ 0)), (1, iv x1), (2, iv y148_2), (4, iv y148_4)]) dX14_readOptions_194 (by decide) rfl ?_
                            refine z_goto hC (pc := 196) 148 dX14_readOptions_196 (by decide) ?_
                            refine z_lvs [1, 2, 3, 4, 0] rfl ?_
                            obtain ⟨hI, hm⟩ := h
                            exact ih148 s181 y148_2 y148_4 (rA s181 (1000 * ((rR σ 7) + 1) + 5) y148_5) Ws181 hy148_2 hy148_4 (Ws181.a _ _) (rKeep.tr (rKeep.tr rKeep.rf kJ rfl rfl rfl rfl rfl) qs181.1 rfl rfl rfl rfl rfl) hI (by omega)
                  refine z_lvs [2, 3, 4, 1, 0] rfl ?_
                  exact j148 _ s47 y25_2 1 (rA s47 (1000 * ((rR σ 7) + 1) + 2) x1) Ws47 hy25_2 (r_lit rfl) (Ws47.a _ _) (rKeep.tr (rKeep.tr (rKeep.tr rKeep.rf kJ rfl rfl rfl rfl rfl) (rKeep.sF0 (f := 29)) rfl rfl rfl rfl rfl) qs47.1 rfl rfl rfl rfl rfl) h (Nat.le_refl _)
              · have h := hF c
                refine z_iconst hC (pc := 60) (v := Int32.ofInt 0) dX14_readOptions_60 (by decide) ?_
                refine z_goto hC (pc := 61) 121 dX14_readOptions_61 (by decide) ?_
                refine z_istore hC (pc := 121) (lv' := [(4, iv 0), (0, .ref (κ 0)), (1, iv x1), (2, iv y25_2), (3, iv y25_3)]) dX14_readOptions_121 (by decide) rfl ?_
                refine z_iload hC (pc := 123) 0 dX14_readOptions_123 rfl ?_
                refine y_if_ge hC (pc := 125) 137 (r_lit rfl) dX14_readOptions_125 (by decide) (fun _ => ?_) (fun c => absurd c (by decide))
                refine z_aload_n hC (pc := 137) 1 dX14_readOptions_137 rfl rfl ?_
                refine y_get hC (pc := 138) zf14 rOb_0 7 (v := .ref (κ (rR σ 7))) dX14_readOptions_138 zw2475 (rv_g rfl ((qs47.1.R rfl).trans (kJ.R rfl)) g0) (kk := ?_)
                refine y_getN hC (pc := 141) zf13 (rOb_k g0) 2 (v := .ref (κ (1000 * ((rR σ 7) + 1) + 2))) dX14_readOptions_141 zw2314 (rv_c rfl) (kk := ?_)
                refine z_iload_n hC (pc := 144) 2 dX14_readOptions_144 rfl rfl ?_
                obtain ⟨b217, h⟩ := h
                refine y_iald hC (pc := 145) (rAr_k g0 rfl rfl) dX14_readOptions_145 b217 (v := (rA s47 (1000 * ((rR σ 7) + 1) + 2) x1)) rfl (kk := ?_)
                have h := h (Ws47.a _ _)
                refine z_istore hC (pc := 146) (lv' := [(5, iv (rA s47 (1000 * ((rR σ 7) + 1) + 2) x1)), (4, iv 0), (0, .ref (κ 0)), (1, iv x1), (2, iv y25_2), (3, iv y25_3)]) dX14_readOptions_146 (by decide) rfl ?_
                have j148 : ∀ (d148 : Nat), ∀ (s148 : rS) (y148_2 : Int) (y148_4 : Int) (y148_5 : Int), rWF s148 → rng y148_2 → rng y148_4 → rng y148_5 → rKeep 0x6c0a3001c00 0x4100001280 0x13c00000000 0x3ee0000d7f 0 σ s148 → inv_X14_readOptions_148 σ x1 gg g (mu_X14_readOptions_25 σ x1 gg g s25 y25_2 y25_3) s148 y148_2 y148_4 y148_5 → (mu_X14_readOptions_148 σ x1 gg g s148 y148_2 y148_4 y148_5) ≤ d148 → zS X G 6 (rW G κ s148) [(0, .ref (κ 0)), (1, iv x1), (2, iv y148_2), (4, iv y148_4), (5, iv y148_5)] 0 0 148 [] := by
                  intro d148
                  induction d148 with
                  | zero =>
                    intro s148 y148_2 y148_4 y148_5 Ws148 hy148_2 hy148_4 hy148_5 kJ hI hmu
                    exact absurd hmu (by have := h_148m (mu_X14_readOptions_25 σ x1 gg g s25 y25_2 y25_3) s148 y148_2 y148_4 y148_5 Ws148 hy148_2 hy148_4 hy148_5 (TPRp.keep kJ rfl rfl rfl) (CCp.keep kJ rfl rfl rfl rfl rfl rfl rfl) (kJ.R rfl) (kJ.F rfl) (kJ.F rfl) (kJ.F rfl) (kJ.F rfl) (kJ.F rfl) (kJ.F rfl) (fun i => kJ.A (f := 26) (by decide) rfl) hI; omega)
                  | succ d148 ih148 =>
                    intro s148 y148_2 y148_4 y148_5 Ws148 hy148_2 hy148_4 hy148_5 kJ hI hmu148
                    have h := h_148 (mu_X14_readOptions_25 σ x1 gg g s25 y25_2 y25_3) s148 y148_2 y148_4 y148_5 Ws148 hy148_2 hy148_4 hy148_5 (TPRp.keep kJ rfl rfl rfl) (CCp.keep kJ rfl rfl rfl rfl rfl rfl rfl) (kJ.R rfl) (kJ.F rfl) (kJ.F rfl) (kJ.F rfl) (kJ.F rfl) (kJ.F rfl) (kJ.F rfl) (fun i => kJ.A (f := 26) (by decide) rfl) hI
                    refine z_iload hC (pc := 148) 4 dX14_readOptions_148 rfl ?_
                    have j199 : ∀ (s199 : rS) (y199_2 : Int) (y199_4 : Int), rWF s199 → rng y199_2 → rng y199_4 → rKeep 0x6c0a3001c00 0x4100001280 0x13c00000000 0x3ee0000d7f 0 σ s199 → inv_X14_readOptions_199 σ x1 gg g (mu_X14_readOptions_25 σ x1 gg g s25 y25_2 y25_3) s199 y199_2 y199_4 → zS X G 6 (rW G κ s199) [(0, .ref (κ 0)), (1, iv x1), (2, iv y199_2), (4, iv y199_4)] 0 0 199 [] := by
                      intro s199 y199_2 y199_4 Ws199 hy199_2 hy199_4 kJ hI
                      have h := h_199 (mu_X14_readOptions_25 σ x1 gg g s25 y25_2 y25_3) s199 y199_2 y199_4 Ws199 hy199_2 hy199_4 (TPRp.keep kJ rfl rfl rfl) (CCp.keep kJ rfl rfl rfl rfl rfl rfl rfl) (kJ.R rfl) (kJ.F rfl) (kJ.F rfl) (kJ.F rfl) (kJ.F rfl) (kJ.F rfl) (kJ.F rfl) (fun i => kJ.A (f := 26) (by decide) rfl) hI
                      refine z_aload_n hC (pc := 199) 0 dX14_readOptions_199 rfl rfl ?_
                      refine y_get hC (pc := 200) zf14 rOb_0 10 (v := iv (rF s199 0 10)) dX14_readOptions_200 zw2478 (rv_i (Or.inl rfl) rfl) (kk := ?_)
                      have h := h (Ws199.f _ _)
                      obtain ⟨hT, hF⟩ := h
                      refine y_if_eq hC (pc := 203) 207 (Ws199.f _ _) dX14_readOptions_203 (by decide) (fun c => ?_) (fun c => ?_)
                      · have h := hT c
                        refine z_aload_n hC (pc := 207) 0 dX14_readOptions_207 rfl rfl ?_
                        refine z_bipush hC (pc := 208) (v := Int32.ofInt 53) dX14_readOptions_208 (by decide) ?_
                        refine z_iload hC (pc := 210) 3 dX14_readOptions_210 rfl ?_
                        refine z_iconst hC (pc := 212) (v := Int32.ofInt 0) dX14_readOptions_212 (by decide) ?_
                        refine z_aload_n hC (pc := 213) 0 dX14_readOptions_213 rfl rfl ?_
                        obtain ⟨p218, h⟩ := h
                        refine y_callVi hC (pc := 214) (As := []) (kX14_place l G κ s199  Ws199  p218) dmX14_place zf14 rOb_0 dX14_readOptions_214 zw3103 rfl rfl (Nat.le_of_ble_eq_true rfl) (Nat.le_of_ble_eq_true rfl) (by omega) (by omega) (Nat.le_of_ble_eq_true rfl) (kk := fun v214 s214 hv214 Ws214 qs214 => ?_)
                        obtain ⟨es214, qs214⟩ := qs214
                        have es214 := es214.symm
                        subst es214
                        have h := h v214 hv214 qs214
                        obtain ⟨p219, h⟩ := h
                        refine y_callVi hC (pc := 217) (As := [iv 53, iv y199_4, iv 0, iv v214]) (kX14_node_t l G κ s199 53 y199_4 0 v214 gg Ws199 (r_lit rfl) hy199_4 (r_lit rfl) hv214 p219) dmX14_node zf14 rOb_0 dX14_readOptions_217 zw3170 rfl rfl (Nat.le_of_ble_eq_true rfl) (Nat.le_of_ble_eq_true rfl) (by omega) (by omega) (Nat.le_of_ble_eq_true rfl) (kk := fun v217 s217 hv217 Ws217 qs217 => ?_)
                        have h := h v217 s217 hv217 Ws217 (rNMp.keep qs217.1 rfl rfl rfl rfl rfl) (TPRp.keep qs217.1 rfl rfl rfl) (WNp.keep qs217.1 rfl rfl rfl rfl rfl) (CCp.keep qs217.1 rfl rfl rfl rfl rfl rfl rfl) (qs217.1.R rfl) (qs217.1.F rfl) (qs217.1.F rfl) (qs217.1.F rfl) (qs217.1.F rfl) (qs217.1.F rfl) (qs217.1.F rfl) (qs217.1.F rfl) (qs217.1.F rfl) (qs217.1.F rfl) (qs217.1.F rfl) (qs217.1.F rfl) (fun i => qs217.1.A (f := 26) (by decide) rfl) (qs217.1.FG g0 rfl) (qs217.1.FG g0 rfl) (qs217.1.FG g0 rfl) (qs217.1.FG g0 rfl) (fz_keep qs217.1 rfl) qs217.2
                        refine z_istore hC (pc := 220) (lv' := [(5, iv v217), (0, .ref (κ 0)), (1, iv x1), (2, iv y199_2), (4, iv y199_4)]) dX14_readOptions_220 (by decide) rfl ?_
                        refine z_aload_n hC (pc := 222) 1 dX14_readOptions_222 rfl rfl ?_
                        refine z_aload_n hC (pc := 223) 1 dX14_readOptions_223 rfl rfl ?_
                        refine y_get hC (pc := 224) zf14 rOb_0 26 (v := .ref (κ 1026)) dX14_readOptions_224 zw2493 (rv_c rfl) (kk := ?_)
                        refine z_aload_n hC (pc := 227) 1 dX14_readOptions_227 rfl rfl ?_
                        refine y_get hC (pc := 228) zf14 rOb_0 28 (v := iv (rF s217 0 28)) dX14_readOptions_228 zw2495 (rv_i (Or.inl rfl) rfl) (kk := ?_)
                        have h := h (Ws217.f _ _)
                        refine z_aload_n hC (pc := 231) 1 dX14_readOptions_231 rfl rfl ?_
                        refine y_get hC (pc := 232) zf14 rOb_0 29 (v := iv (rF s199 0 29)) dX14_readOptions_232 zw2496 (rv_i (Or.inl rfl) ((qs217.1.F rfl).trans rfl)) (kk := ?_)
                        have h := h (Ws199.f _ _)
                        obtain ⟨p220, h⟩ := h
                        refine y_callSi hC (pc := 235) (As := [.ref (κ 1026), iv (rF s217 0 28), iv (rF s199 0 29)]) (kX14_wordEnd_t l G κ s217 1026 4001 (rF s217 0 28) (rF s199 0 29) Ws217 (rAr_m rfl) (Ws217.f _ _) (Ws199.f _ _) p220) dmX14_wordEnd dX14_readOptions_235 zw3009 rfl rfl (Nat.le_of_ble_eq_true rfl) (Nat.le_of_ble_eq_true rfl) (by omega) (by omega) (Nat.le_of_ble_eq_true rfl) (kk := fun v235 s235 hv235 Ws235 qs235 => ?_)
                        obtain ⟨es235, qs235⟩ := qs235
                        have es235 := es235.symm
                        subst es235
                        have h := h v235 hv235 qs235
                        refine y_putI hC (pc := 238) zf14 rOb_0 29 (x := v235) dX14_readOptions_238 zw2496 (Or.inl rfl) rfl rfl (kk := ?_)
                        have W221 := Ws217.sF (q := 0) (f := 29) (x := v235) hv235
                        refine z_aload_n hC (pc := 241) 1 dX14_readOptions_241 rfl rfl ?_
                        obtain ⟨p222, h⟩ := h
                        refine y_callVv hC (pc := 242) (As := []) (kX14_blanks l G κ (sF s217 0 29 v235)  W221  p222) dmX14_blanks zf14 rOb_0 dX14_readOptions_242 zw3119 rfl rfl (Nat.le_of_ble_eq_true rfl) (Nat.le_of_ble_eq_true rfl) (by omega) (by omega) (Nat.le_of_ble_eq_true rfl) (kk := fun s242 Ws242 qs242 => ?_)
                        have h := h s242 Ws242 (rNMp.keep qs242.1 rfl rfl rfl rfl rfl) (TPRp.keep qs242.1 rfl rfl rfl) (WNp.keep qs242.1 rfl rfl rfl rfl rfl) (PNp.keep qs242.1 rfl rfl rfl rfl rfl) (CCp.keep qs242.1 rfl rfl rfl rfl rfl rfl rfl) (qs242.1.R rfl) (qs242.1.F rfl) (qs242.1.F rfl) (qs242.1.F rfl) (qs242.1.F rfl) (qs242.1.F rfl) (qs242.1.F rfl) (qs242.1.F rfl) (qs242.1.F rfl) (qs242.1.F rfl) (qs242.1.F rfl) (fun i => qs242.1.A (f := 26) (by decide) rfl) (qs242.1.FG g0 rfl) (qs242.1.FG g0 rfl) (qs242.1.FG g0 rfl) (qs242.1.FG g0 rfl) (qs242.1.FG g0 rfl) (fz_keep qs242.1 rfl) (RG.keep (c0 := 0) qs242.1 rfl rfl rfl rfl rfl rfl rfl rfl rfl rfl rfl rfl rfl rfl rfl rfl rfl rfl) qs242.2
                        refine z_aload_n hC (pc := 245) 1 dX14_readOptions_245 rfl rfl ?_
                        obtain ⟨p223, h⟩ := h
                        refine y_callVi hC (pc := 246) (As := []) (kX14_here l G κ s242  Ws242  p223) dmX14_here zf14 rOb_0 dX14_readOptions_246 zw3099 rfl rfl (Nat.le_of_ble_eq_true rfl) (Nat.le_of_ble_eq_true rfl) (by omega) (by omega) (Nat.le_of_ble_eq_true rfl) (kk := fun v246 s246 hv246 Ws246 qs246 => ?_)
                        obtain ⟨es246, qs246⟩ := qs246
                        have es246 := es246.symm
                        subst es246
                        have h := h v246 hv246 qs246
                        refine z_bipush hC (pc := 249) (v := Int32.ofInt 61) dX14_readOptions_249 (by decide) ?_
                        obtain ⟨hT, hF⟩ := h
                        refine y_icmp_ne hC (pc := 251) 281 hv246 (r_lit rfl) dX14_readOptions_251 (by decide) (fun c => ?_) (fun c => ?_)
                        · have h := hT c
                          refine z_iload hC (pc := 281) 4 dX14_readOptions_281 rfl ?_
                          refine z_iconst hC (pc := 283) (v := Int32.ofInt 3) dX14_readOptions_283 (by decide) ?_
                          obtain ⟨hT, hF⟩ := h
                          refine y_icmp_ge hC (pc := 284) 296 hy199_4 (r_lit rfl) dX14_readOptions_284 (by decide) (fun c => ?_) (fun c => ?_)
                          · have h := hT c
                            refine z_iload_n hC (pc := 296) 3 dX14_readOptions_296 rfl rfl ?_
                            have j325 : ∀ (s325 : rS) (y325_5 : Int), rWF s325 → rng y325_5 → rKeep 0x6c0a3001c00 0x4100001280 0x13c00000000 0x3ee0000d7f 0 σ s325 → inv_X14_readOptions_325 σ x1 gg g (mu_X14_readOptions_25 σ x1 gg g s25 y25_2 y25_3) s325 y325_5 → zS X G 6 (rW G κ s325) [(0, .ref (κ 0)), (1, iv x1), (5, iv y325_5)] 0 0 325 [] := by
                              intro s325 y325_5 Ws325 hy325_5 kJ hI
                              have h := h_325 (mu_X14_readOptions_25 σ x1 gg g s25 y25_2 y25_3) s325 y325_5 Ws325 hy325_5 (TPRp.keep kJ rfl rfl rfl) (CCp.keep kJ rfl rfl rfl rfl rfl rfl rfl) (kJ.R rfl) (kJ.F rfl) (kJ.F rfl) (kJ.F rfl) (kJ.F rfl) (kJ.F rfl) (kJ.F rfl) (fun i => kJ.A (f := 26) (by decide) rfl) hI
                              refine z_iload hC (pc := 325) 2 dX14_readOptions_325 rfl ?_
                              refine z_istore_n hC (pc := 327) (lv' := [(2, iv y325_5), (0, .ref (κ 0)), (1, iv x1), (5, iv y325_5)]) dX14_readOptions_327 rfl (by decide) rfl ?_
                              refine z_aload_n hC (pc := 328) 1 dX14_readOptions_328 rfl rfl ?_
                              obtain ⟨p224, h⟩ := h
                              refine y_callVv hC (pc := 329) (As := []) (kX14_blanks l G κ s325  Ws325  p224) dmX14_blanks zf14 rOb_0 dX14_readOptions_329 zw3119 rfl rfl (Nat.le_of_ble_eq_true rfl) (Nat.le_of_ble_eq_true rfl) (by omega) (by omega) (Nat.le_of_ble_eq_true rfl) (kk := fun s329 Ws329 qs329 => ?_)
                              have h := h s329 Ws329 (rNMp.keep qs329.1 rfl rfl rfl rfl rfl) (TPRp.keep qs329.1 rfl rfl rfl) (WNp.keep qs329.1 rfl rfl rfl rfl rfl) (PNp.keep qs329.1 rfl rfl rfl rfl rfl) (CCp.keep qs329.1 rfl rfl rfl rfl rfl rfl rfl) (qs329.1.R rfl) (qs329.1.F rfl) (qs329.1.F rfl) (qs329.1.F rfl) (qs329.1.F rfl) (qs329.1.F rfl) (qs329.1.F rfl) (qs329.1.F rfl) (qs329.1.F rfl) (qs329.1.F rfl) (qs329.1.F rfl) (fun i => qs329.1.A (f := 26) (by decide) rfl) (qs329.1.FG g0 rfl) (qs329.1.FG g0 rfl) (qs329.1.FG g0 rfl) (qs329.1.FG g0 rfl) (qs329.1.FG g0 rfl) (fz_keep qs329.1 rfl) (RG.keep (c0 := 0) qs329.1 rfl rfl rfl rfl rfl rfl rfl rfl rfl rfl rfl rfl rfl rfl rfl rfl rfl rfl) qs329.2
                              refine z_aload_n hC (pc := 332) 1 dX14_readOptions_332 rfl rfl ?_
                              obtain ⟨p225, h⟩ := h
                              refine y_callVi hC (pc := 333) (As := []) (kX14_here l G κ s329  Ws329  p225) dmX14_here zf14 rOb_0 dX14_readOptions_333 zw3099 rfl rfl (Nat.le_of_ble_eq_true rfl) (Nat.le_of_ble_eq_true rfl) (by omega) (by omega) (Nat.le_of_ble_eq_true rfl) (kk := fun v333 s333 hv333 Ws333 qs333 => ?_)
                              obtain ⟨es333, qs333⟩ := qs333
                              have es333 := es333.symm
                              subst es333
                              have h := h v333 hv333 qs333
                              refine z_bipush hC (pc := 336) (v := Int32.ofInt 44) dX14_readOptions_336 (by decide) ?_
                              obtain ⟨hT, hF⟩ := h
                              refine y_icmp_ne hC (pc := 338) 345 hv333 (r_lit rfl) dX14_readOptions_338 (by decide) (fun c => ?_) (fun c => ?_)
                              · have h := hT c
                                refine z_iconst hC (pc := 345) (v := Int32.ofInt 0) dX14_readOptions_345 (by decide) ?_
                                refine z_istore_n hC (pc := 346) (lv' := [(3, iv 0), (2, iv y325_5), (0, .ref (κ 0)), (1, iv x1), (5, iv y325_5)]) dX14_readOptions_346 rfl (by decide) rfl ?_
                                refine z_goto hC (pc := 347) 25 dX14_readOptions_347 (by decide) ?_
                                refine z_lvs [2, 3, 1, 0] rfl ?_
                                obtain ⟨hI, hm⟩ := h
                                exact ih25 s329 y325_5 0 Ws329 hy325_5 (r_lit rfl) (rKeep.tr (rKeep.tr rKeep.rf kJ rfl rfl rfl rfl rfl) qs329.1 rfl rfl rfl rfl rfl) hI (by omega)
                              · have h := hF c
                                refine z_iconst hC (pc := 341) (v := Int32.ofInt 1) dX14_readOptions_341 (by decide) ?_
                                refine z_goto hC (pc := 342) 346 dX14_readOptions_342 (by decide) ?_
                                refine z_istore_n hC (pc := 346) (lv' := [(3, iv 1), (2, iv y325_5), (0, .ref (κ 0)), (1, iv x1), (5, iv y325_5)]) dX14_readOptions_346 rfl (by decide) rfl ?_
                                refine z_goto hC (pc := 347) 25 dX14_readOptions_347 (by decide) ?_
                                refine z_lvs [2, 3, 1, 0] rfl ?_
                                obtain ⟨hI, hm⟩ := h
                                exact ih25 s329 y325_5 1 Ws329 hy325_5 (r_lit rfl) (rKeep.tr (rKeep.tr rKeep.rf kJ rfl rfl rfl rfl rfl) qs329.1 rfl rfl rfl rfl rfl) hI (by omega)
                            obtain ⟨hT, hF⟩ := h
                            refine y_if_ne hC (pc := 297) 314 hy199_2 dX14_readOptions_297 (by decide) (fun c => ?_) (fun c => ?_)
                            · have h := hT c
                              refine z_aload_n hC (pc := 314) 1 dX14_readOptions_314 rfl rfl ?_
                              refine y_get hC (pc := 315) zf14 rOb_0 7 (v := .ref (κ (rR σ 7))) dX14_readOptions_315 zw2475 (rv_g rfl ((qs242.1.R rfl).trans ((qs217.1.R rfl).trans (kJ.R rfl))) g0) (kk := ?_)
                              refine y_getN hC (pc := 318) zf13 (rOb_k g0) 5 (v := .ref (κ (1000 * ((rR σ 7) + 1) + 5))) dX14_readOptions_318 zw2320 (rv_c rfl) (kk := ?_)
                              refine z_iload_n hC (pc := 321) 3 dX14_readOptions_321 rfl rfl ?_
                              refine z_iload hC (pc := 322) 0 dX14_readOptions_322 rfl ?_
                              obtain ⟨b226, h⟩ := h
                              refine y_iast hC (pc := 324) (rAr_k g0 rfl rfl) dX14_readOptions_324 b226 (v := v217) (kk := ?_)
                              have W227 := Ws242.sA (p := (1000 * ((rR σ 7) + 1) + 5)) (i := y199_2) (x := v217) hv217
                              refine z_lvs [1, 2, 0] rfl ?_
                              exact j325 (sT s242 (rR σ 7) 5 y199_2 v217) v217 W227 hv217 (rKeep.tr (rKeep.tr (rKeep.tr (rKeep.tr (rKeep.tr rKeep.rf kJ rfl rfl rfl rfl rfl) qs217.1 rfl rfl rfl rfl rfl) (rKeep.sF0 (f := 29)) rfl rfl rfl rfl rfl) qs242.1 rfl rfl rfl rfl rfl) (rKeep.sAk (f := 5) g0 (by decide)) rfl rfl rfl rfl rfl) h
                            · have h := hF c
                              refine z_aload_n hC (pc := 300) 1 dX14_readOptions_300 rfl rfl ?_
                              refine y_get hC (pc := 301) zf14 rOb_0 7 (v := .ref (κ (rR σ 7))) dX14_readOptions_301 zw2475 (rv_g rfl ((qs242.1.R rfl).trans ((qs217.1.R rfl).trans (kJ.R rfl))) g0) (kk := ?_)
                              refine y_getN hC (pc := 304) zf13 (rOb_k g0) 2 (v := .ref (κ (1000 * ((rR σ 7) + 1) + 2))) dX14_readOptions_304 zw2314 (rv_c rfl) (kk := ?_)
                              refine z_iload_n hC (pc := 307) 2 dX14_readOptions_307 rfl rfl ?_
                              refine z_iload hC (pc := 308) 0 dX14_readOptions_308 rfl ?_
                              obtain ⟨b228, h⟩ := h
                              refine y_iast hC (pc := 310) (rAr_k g0 rfl rfl) dX14_readOptions_310 b228 (v := v217) (kk := ?_)
                              have W229 := Ws242.sA (p := (1000 * ((rR σ 7) + 1) + 2)) (i := x1) (x := v217) hv217
                              refine z_goto hC (pc := 311) 325 dX14_readOptions_311 (by decide) ?_
                              refine z_lvs [1, 2, 0] rfl ?_
                              exact j325 (sT s242 (rR σ 7) 2 x1 v217) v217 W229 hv217 (rKeep.tr (rKeep.tr (rKeep.tr (rKeep.tr (rKeep.tr rKeep.rf kJ rfl rfl rfl rfl rfl) qs217.1 rfl rfl rfl rfl rfl) (rKeep.sF0 (f := 29)) rfl rfl rfl rfl rfl) qs242.1 rfl rfl rfl rfl rfl) (rKeep.sAk (f := 2) g0 (by decide)) rfl rfl rfl rfl rfl) h
                          · have h := hF c
                            refine z_aload_n hC (pc := 287) 1 dX14_readOptions_287 rfl rfl ?_
                            refine z_iconst hC (pc := 288) (v := Int32.ofInt 1) dX14_readOptions_288 (by decide) ?_
                            refine z_aload_n hC (pc := 289) 1 dX14_readOptions_289 rfl rfl ?_
                            obtain ⟨p230, h⟩ := h
                            refine y_callVi hC (pc := 290) (As := []) (kX14_place l G κ s242  Ws242  p230) dmX14_place zf14 rOb_0 dX14_readOptions_290 zw3103 rfl rfl (Nat.le_of_ble_eq_true rfl) (Nat.le_of_ble_eq_true rfl) (by omega) (by omega) (Nat.le_of_ble_eq_true rfl) (kk := fun v290 s290 hv290 Ws290 qs290 => ?_)
                            obtain ⟨es290, qs290⟩ := qs290
                            have es290 := es290.symm
                            subst es290
                            have h := h v290 hv290 qs290
                            obtain ⟨p231, h⟩ := h
                            refine y_callVv hC (pc := 293) (As := [iv 1, iv v290]) (kX14_bad l G κ s242 1 v290 Ws242 (r_lit rfl) hv290 p231) dmX14_bad zf14 rOb_0 dX14_readOptions_293 zw3000 rfl rfl (Nat.le_of_ble_eq_true rfl) (Nat.le_of_ble_eq_true rfl) (by omega) (by omega) (Nat.le_of_ble_eq_true rfl) (kk := fun s293 Ws293 qs293 => ?_)
                            have h := h s293 Ws293 (rNMp.keep qs293.1 rfl rfl rfl rfl rfl) (TPRp.keep qs293.1 rfl rfl rfl) (WNp.keep qs293.1 rfl rfl rfl rfl rfl) (PNp.keep qs293.1 rfl rfl rfl rfl rfl) (CCp.keep qs293.1 rfl rfl rfl rfl rfl rfl rfl) (qs293.1.R rfl) (qs293.1.F rfl) (qs293.1.F rfl) (qs293.1.F rfl) (qs293.1.F rfl) (qs293.1.F rfl) (qs293.1.F rfl) (qs293.1.F rfl) (qs293.1.F rfl) (qs293.1.F rfl) (qs293.1.F rfl) (fun i => qs293.1.A (f := 26) (by decide) rfl) (qs293.1.FG g0 rfl) (qs293.1.FG g0 rfl) (qs293.1.FG g0 rfl) (qs293.1.FG g0 rfl) (qs293.1.FG g0 rfl) (RG.keep (c0 := 0) qs293.1 rfl rfl rfl rfl rfl rfl rfl rfl rfl rfl rfl rfl rfl rfl rfl rfl rfl rfl) qs293.2
                            refine z_iload_n hC (pc := 296) 3 dX14_readOptions_296 rfl rfl ?_
                            have j325 : ∀ (s325 : rS) (y325_5 : Int), rWF s325 → rng y325_5 → rKeep 0x6c0a3001c00 0x4100001280 0x13c00000000 0x3ee0000d7f 0 σ s325 → inv_X14_readOptions_325 σ x1 gg g (mu_X14_readOptions_25 σ x1 gg g s25 y25_2 y25_3) s325 y325_5 → zS X G 6 (rW G κ s325) [(0, .ref (κ 0)), (1, iv x1), (5, iv y325_5)] 0 0 325 [] := by
                              intro s325 y325_5 Ws325 hy325_5 kJ hI
                              have h := h_325 (mu_X14_readOptions_25 σ x1 gg g s25 y25_2 y25_3) s325 y325_5 Ws325 hy325_5 (TPRp.keep kJ rfl rfl rfl) (CCp.keep kJ rfl rfl rfl rfl rfl rfl rfl) (kJ.R rfl) (kJ.F rfl) (kJ.F rfl) (kJ.F rfl) (kJ.F rfl) (kJ.F rfl) (kJ.F rfl) (fun i => kJ.A (f := 26) (by decide) rfl) hI
                              refine z_iload hC (pc := 325) 2 dX14_readOptions_325 rfl ?_
                              refine z_istore_n hC (pc := 327) (lv' := [(2, iv y325_5), (0, .ref (κ 0)), (1, iv x1), (5, iv y325_5)]) dX14_readOptions_327 rfl (by decide) rfl ?_
                              refine z_aload_n hC (pc := 328) 1 dX14_readOptions_328 rfl rfl ?_
                              obtain ⟨p232, h⟩ := h
                              refine y_callVv hC (pc := 329) (As := []) (kX14_blanks l G κ s325  Ws325  p232) dmX14_blanks zf14 rOb_0 dX14_readOptions_329 zw3119 rfl rfl (Nat.le_of_ble_eq_true rfl) (Nat.le_of_ble_eq_true rfl) (by omega) (by omega) (Nat.le_of_ble_eq_true rfl) (kk := fun s329 Ws329 qs329 => ?_)
                              have h := h s329 Ws329 (rNMp.keep qs329.1 rfl rfl rfl rfl rfl) (TPRp.keep qs329.1 rfl rfl rfl) (WNp.keep qs329.1 rfl rfl rfl rfl rfl) (PNp.keep qs329.1 rfl rfl rfl rfl rfl) (CCp.keep qs329.1 rfl rfl rfl rfl rfl rfl rfl) (qs329.1.R rfl) (qs329.1.F rfl) (qs329.1.F rfl) (qs329.1.F rfl) (qs329.1.F rfl) (qs329.1.F rfl) (qs329.1.F rfl) (qs329.1.F rfl) (qs329.1.F rfl) (qs329.1.F rfl) (qs329.1.F rfl) (fun i => qs329.1.A (f := 26) (by decide) rfl) (qs329.1.FG g0 rfl) (qs329.1.FG g0 rfl) (qs329.1.FG g0 rfl) (qs329.1.FG g0 rfl) (qs329.1.FG g0 rfl) (fz_keep qs329.1 rfl) (RG.keep (c0 := 0) qs329.1 rfl rfl rfl rfl rfl rfl rfl rfl rfl rfl rfl rfl rfl rfl rfl rfl rfl rfl) qs329.2
                              refine z_aload_n hC (pc := 332) 1 dX14_readOptions_332 rfl rfl ?_
                              obtain ⟨p233, h⟩ := h
                              refine y_callVi hC (pc := 333) (As := []) (kX14_here l G κ s329  Ws329  p233) dmX14_here zf14 rOb_0 dX14_readOptions_333 zw3099 rfl rfl (Nat.le_of_ble_eq_true rfl) (Nat.le_of_ble_eq_true rfl) (by omega) (by omega) (Nat.le_of_ble_eq_true rfl) (kk := fun v333 s333 hv333 Ws333 qs333 => ?_)
                              obtain ⟨es333, qs333⟩ := qs333
                              have es333 := es333.symm
                              subst es333
                              have h := h v333 hv333 qs333
                              refine z_bipush hC (pc := 336) (v := Int32.ofInt 44) dX14_readOptions_336 (by decide) ?_
                              obtain ⟨hT, hF⟩ := h
                              refine y_icmp_ne hC (pc := 338) 345 hv333 (r_lit rfl) dX14_readOptions_338 (by decide) (fun c => ?_) (fun c => ?_)
                              · have h := hT c
                                refine z_iconst hC (pc := 345) (v := Int32.ofInt 0) dX14_readOptions_345 (by decide) ?_
                                refine z_istore_n hC (pc := 346) (lv' := [(3, iv 0), (2, iv y325_5), (0, .ref (κ 0)), (1, iv x1), (5, iv y325_5)]) dX14_readOptions_346 rfl (by decide) rfl ?_
                                refine z_goto hC (pc := 347) 25 dX14_readOptions_347 (by decide) ?_
                                refine z_lvs [2, 3, 1, 0] rfl ?_
                                obtain ⟨hI, hm⟩ := h
                                exact ih25 s329 y325_5 0 Ws329 hy325_5 (r_lit rfl) (rKeep.tr (rKeep.tr rKeep.rf kJ rfl rfl rfl rfl rfl) qs329.1 rfl rfl rfl rfl rfl) hI (by omega)
                              · have h := hF c
                                refine z_iconst hC (pc := 341) (v := Int32.ofInt 1) dX14_readOptions_341 (by decide) ?_
                                refine z_goto hC (pc := 342) 346 dX14_readOptions_342 (by decide) ?_
                                refine z_istore_n hC (pc := 346) (lv' := [(3, iv 1), (2, iv y325_5), (0, .ref (κ 0)), (1, iv x1), (5, iv y325_5)]) dX14_readOptions_346 rfl (by decide) rfl ?_
                                refine z_goto hC (pc := 347) 25 dX14_readOptions_347 (by decide) ?_
                                refine z_lvs [2, 3, 1, 0] rfl ?_
                                obtain ⟨hI, hm⟩ := h
                                exact ih25 s329 y325_5 1 Ws329 hy325_5 (r_lit rfl) (rKeep.tr (rKeep.tr rKeep.rf kJ rfl rfl rfl rfl rfl) qs329.1 rfl rfl rfl rfl rfl) hI (by omega)
                            obtain ⟨hT, hF⟩ := h
                            refine y_if_ne hC (pc := 297) 314 hy199_2 dX14_readOptions_297 (by decide) (fun c => ?_) (fun c => ?_)
                            · have h := hT c
                              refine z_aload_n hC (pc := 314) 1 dX14_readOptions_314 rfl rfl ?_
                              refine y_get hC (pc := 315) zf14 rOb_0 7 (v := .ref (κ (rR σ 7))) dX14_readOptions_315 zw2475 (rv_g rfl ((qs293.1.R rfl).trans ((qs242.1.R rfl).trans ((qs217.1.R rfl).trans (kJ.R rfl)))) g0) (kk := ?_)
                              refine y_getN hC (pc := 318) zf13 (rOb_k g0) 5 (v := .ref (κ (1000 * ((rR σ 7) + 1) + 5))) dX14_readOptions_318 zw2320 (rv_c rfl) (kk := ?_)
                              refine z_iload_n hC (pc := 321) 3 dX14_readOptions_321 rfl rfl ?_
                              refine z_iload hC (pc := 322) 0 dX14_readOptions_322 rfl ?_
                              obtain ⟨b234, h⟩ := h
                              refine y_iast hC (pc := 324) (rAr_k g0 rfl rfl) dX14_readOptions_324 b234 (v := v217) (kk := ?_)
                              have W235 := Ws293.sA (p := (1000 * ((rR σ 7) + 1) + 5)) (i := y199_2) (x := v217) hv217
                              refine z_lvs [1, 2, 0] rfl ?_
                              exact j325 (sT s293 (rR σ 7) 5 y199_2 v217) v217 W235 hv217 (rKeep.tr (rKeep.tr (rKeep.tr (rKeep.tr (rKeep.tr (rKeep.tr rKeep.rf kJ rfl rfl rfl rfl rfl) qs217.1 rfl rfl rfl rfl rfl) (rKeep.sF0 (f := 29)) rfl rfl rfl rfl rfl) qs242.1 rfl rfl rfl rfl rfl) qs293.1 rfl rfl rfl rfl rfl) (rKeep.sAk (f := 5) g0 (by decide)) rfl rfl rfl rfl rfl) h
                            · have h := hF c
                              refine z_aload_n hC (pc := 300) 1 dX14_readOptions_300 rfl rfl ?_
                              refine y_get hC (pc := 301) zf14 rOb_0 7 (v := .ref (κ (rR σ 7))) dX14_readOptions_301 zw2475 (rv_g rfl ((qs293.1.R rfl).trans ((qs242.1.R rfl).trans ((qs217.1.R rfl).trans (kJ.R rfl)))) g0) (kk := ?_)
                              refine y_getN hC (pc := 304) zf13 (rOb_k g0) 2 (v := .ref (κ (1000 * ((rR σ 7) + 1) + 2))) dX14_readOptions_304 zw2314 (rv_c rfl) (kk := ?_)
                              refine z_iload_n hC (pc := 307) 2 dX14_readOptions_307 rfl rfl ?_
                              refine z_iload hC (pc := 308) 0 dX14_readOptions_308 rfl ?_
                              obtain ⟨b236, h⟩ := h
                              refine y_iast hC (pc := 310) (rAr_k g0 rfl rfl) dX14_readOptions_310 b236 (v := v217) (kk := ?_)
                              have W237 := Ws293.sA (p := (1000 * ((rR σ 7) + 1) + 2)) (i := x1) (x := v217) hv217
                              refine z_goto hC (pc := 311) 325 dX14_readOptions_311 (by decide) ?_
                              refine z_lvs [1, 2, 0] rfl ?_
                              exact j325 (sT s293 (rR σ 7) 2 x1 v217) v217 W237 hv217 (rKeep.tr (rKeep.tr (rKeep.tr (rKeep.tr (rKeep.tr (rKeep.tr rKeep.rf kJ rfl rfl rfl rfl rfl) qs217.1 rfl rfl rfl rfl rfl) (rKeep.sF0 (f := 29)) rfl rfl rfl rfl rfl) qs242.1 rfl rfl rfl rfl rfl) qs293.1 rfl rfl rfl rfl rfl) (rKeep.sAk (f := 2) g0 (by decide)) rfl rfl rfl rfl rfl) h
                        · have h := hF c
                          refine z_aload_n hC (pc := 254) 1 dX14_readOptions_254 rfl rfl ?_
                          refine z_dup hC (pc := 255) dX14_readOptions_255 rfl ?_
                          refine y_get hC (pc := 256) zf14 rOb_0 29 (v := iv (rF s242 0 29)) dX14_readOptions_256 zw2496 (rv_i (Or.inl rfl) rfl) (kk := ?_)
                          have h := h (Ws242.f _ _)
                          refine z_iconst hC (pc := 259) (v := Int32.ofInt 1) dX14_readOptions_259 (by decide) ?_
                          refine y_iadd hC (pc := 260) (v := ((rF s242 0 29) + 1)) dX14_readOptions_260 rfl ?_
                          obtain ⟨r238, h⟩ := h
                          refine y_putI hC (pc := 261) zf14 rOb_0 29 (x := ((rF s242 0 29) + 1)) dX14_readOptions_261 zw2496 (Or.inl rfl) rfl rfl (kk := ?_)
                          have W239 := Ws242.sF (q := 0) (f := 29) (x := ((rF s242 0 29) + 1)) r238
                          refine z_aload_n hC (pc := 264) 1 dX14_readOptions_264 rfl rfl ?_
                          refine y_get hC (pc := 265) zf14 rOb_0 7 (v := .ref (κ (rR σ 7))) dX14_readOptions_265 zw2475 (rv_g rfl ((qs242.1.R rfl).trans ((qs217.1.R rfl).trans (kJ.R rfl))) g0) (kk := ?_)
                          refine y_getN hC (pc := 268) zf13 (rOb_k g0) 2 (v := .ref (κ (1000 * ((rR σ 7) + 1) + 2))) dX14_readOptions_268 zw2314 (rv_c rfl) (kk := ?_)
                          refine z_iload hC (pc := 271) 0 dX14_readOptions_271 rfl ?_
                          refine z_aload_n hC (pc := 273) 1 dX14_readOptions_273 rfl rfl ?_
                          obtain ⟨g240, h⟩ := h
                          obtain ⟨p241, h⟩ := h
                          obtain ⟨p242, h⟩ := h
                          refine y_callVi hC (pc := 274) (As := []) (qX14_readArg ih (sF s242 0 29 ((rF s242 0 29) + 1)) gg g240 W239  p241 p242) dmX14_readArg zf14 rOb_0 dX14_readOptions_274 zw3234 rfl rfl (Nat.le_of_ble_eq_true rfl) (Nat.le_of_ble_eq_true rfl) (by omega) (by omega) (Nat.le_of_ble_eq_true rfl) (kk := fun v274 s274 hv274 Ws274 qs274 => ?_)
                          have h := h v274 s274 hv274 Ws274 (TPRp.keep qs274.1 rfl rfl rfl) (CCp.keep qs274.1 rfl rfl rfl rfl rfl rfl rfl) (qs274.1.R rfl) (qs274.1.F rfl) (qs274.1.F rfl) (qs274.1.F rfl) (qs274.1.F rfl) (qs274.1.F rfl) (qs274.1.F rfl) (fun i => qs274.1.A (f := 26) (by decide) rfl) qs274.2
                          obtain ⟨b243, h⟩ := h
                          refine y_iast hC (pc := 277) (rAr_k g0 rfl rfl) dX14_readOptions_277 b243 (v := v274) (kk := ?_)
                          have W244 := Ws274.sA (p := (1000 * ((rR σ 7) + 1) + 2)) (i := v217) (x := v274) hv274
                          refine z_goto hC (pc := 278) 296 dX14_readOptions_278 (by decide) ?_
                          refine z_iload_n hC (pc := 296) 3 dX14_readOptions_296 rfl rfl ?_
                          have j325 : ∀ (s325 : rS) (y325_5 : Int), rWF s325 → rng y325_5 → rKeep 0x6c0a3001c00 0x4100001280 0x13c00000000 0x3ee0000d7f 0 σ s325 → inv_X14_readOptions_325 σ x1 gg g (mu_X14_readOptions_25 σ x1 gg g s25 y25_2 y25_3) s325 y325_5 → zS X G 6 (rW G κ s325) [(0, .ref (κ 0)), (1, iv x1), (5, iv y325_5)] 0 0 325 [] := by
                            intro s325 y325_5 Ws325 hy325_5 kJ hI
                            have h := h_325 (mu_X14_readOptions_25 σ x1 gg g s25 y25_2 y25_3) s325 y325_5 Ws325 hy325_5 (TPRp.keep kJ rfl rfl rfl) (CCp.keep kJ rfl rfl rfl rfl rfl rfl rfl) (kJ.R rfl) (kJ.F rfl) (kJ.F rfl) (kJ.F rfl) (kJ.F rfl) (kJ.F rfl) (kJ.F rfl) (fun i => kJ.A (f := 26) (by decide) rfl) hI
                            refine z_iload hC (pc := 325) 2 dX14_readOptions_325 rfl ?_
                            refine z_istore_n hC (pc := 327) (lv' := [(2, iv y325_5), (0, .ref (κ 0)), (1, iv x1), (5, iv y325_5)]) dX14_readOptions_327 rfl (by decide) rfl ?_
                            refine z_aload_n hC (pc := 328) 1 dX14_readOptions_328 rfl rfl ?_
                            obtain ⟨p245, h⟩ := h
                            refine y_callVv hC (pc := 329) (As := []) (kX14_blanks l G κ s325  Ws325  p245) dmX14_blanks zf14 rOb_0 dX14_readOptions_329 zw3119 rfl rfl (Nat.le_of_ble_eq_true rfl) (Nat.le_of_ble_eq_true rfl) (by omega) (by omega) (Nat.le_of_ble_eq_true rfl) (kk := fun s329 Ws329 qs329 => ?_)
                            have h := h s329 Ws329 (rNMp.keep qs329.1 rfl rfl rfl rfl rfl) (TPRp.keep qs329.1 rfl rfl rfl) (WNp.keep qs329.1 rfl rfl rfl rfl rfl) (PNp.keep qs329.1 rfl rfl rfl rfl rfl) (CCp.keep qs329.1 rfl rfl rfl rfl rfl rfl rfl) (qs329.1.R rfl) (qs329.1.F rfl) (qs329.1.F rfl) (qs329.1.F rfl) (qs329.1.F rfl) (qs329.1.F rfl) (qs329.1.F rfl) (qs329.1.F rfl) (qs329.1.F rfl) (qs329.1.F rfl) (qs329.1.F rfl) (fun i => qs329.1.A (f := 26) (by decide) rfl) (qs329.1.FG g0 rfl) (qs329.1.FG g0 rfl) (qs329.1.FG g0 rfl) (qs329.1.FG g0 rfl) (qs329.1.FG g0 rfl) (fz_keep qs329.1 rfl) (RG.keep (c0 := 0) qs329.1 rfl rfl rfl rfl rfl rfl rfl rfl rfl rfl rfl rfl rfl rfl rfl rfl rfl rfl) qs329.2
                            refine z_aload_n hC (pc := 332) 1 dX14_readOptions_332 rfl rfl ?_
                            obtain ⟨p246, h⟩ := h
                            refine y_callVi hC (pc := 333) (As := []) (kX14_here l G κ s329  Ws329  p246) dmX14_here zf14 rOb_0 dX14_readOptions_333 zw3099 rfl rfl (Nat.le_of_ble_eq_true rfl) (Nat.le_of_ble_eq_true rfl) (by omega) (by omega) (Nat.le_of_ble_eq_true rfl) (kk := fun v333 s333 hv333 Ws333 qs333 => ?_)
                            obtain ⟨es333, qs333⟩ := qs333
                            have es333 := es333.symm
                            subst es333
                            have h := h v333 hv333 qs333
                            refine z_bipush hC (pc := 336) (v := Int32.ofInt 44) dX14_readOptions_336 (by decide) ?_
                            obtain ⟨hT, hF⟩ := h
                            refine y_icmp_ne hC (pc := 338) 345 hv333 (r_lit rfl) dX14_readOptions_338 (by decide) (fun c => ?_) (fun c => ?_)
                            · have h := hT c
                              refine z_iconst hC (pc := 345) (v := Int32.ofInt 0) dX14_readOptions_345 (by decide) ?_
                              refine z_istore_n hC (pc := 346) (lv' := [(3, iv 0), (2, iv y325_5), (0, .ref (κ 0)), (1, iv x1), (5, iv y325_5)]) dX14_readOptions_346 rfl (by decide) rfl ?_
                              refine z_goto hC (pc := 347) 25 dX14_readOptions_347 (by decide) ?_
                              refine z_lvs [2, 3, 1, 0] rfl ?_
                              obtain ⟨hI, hm⟩ := h
                              exact ih25 s329 y325_5 0 Ws329 hy325_5 (r_lit rfl) (rKeep.tr (rKeep.tr rKeep.rf kJ rfl rfl rfl rfl rfl) qs329.1 rfl rfl rfl rfl rfl) hI (by omega)
                            · have h := hF c
                              refine z_iconst hC (pc := 341) (v := Int32.ofInt 1) dX14_readOptions_341 (by decide) ?_
                              refine z_goto hC (pc := 342) 346 dX14_readOptions_342 (by decide) ?_
                              refine z_istore_n hC (pc := 346) (lv' := [(3, iv 1), (2, iv y325_5), (0, .ref (κ 0)), (1, iv x1), (5, iv y325_5)]) dX14_readOptions_346 rfl (by decide) rfl ?_
                              refine z_goto hC (pc := 347) 25 dX14_readOptions_347 (by decide) ?_
                              refine z_lvs [2, 3, 1, 0] rfl ?_
                              obtain ⟨hI, hm⟩ := h
                              exact ih25 s329 y325_5 1 Ws329 hy325_5 (r_lit rfl) (rKeep.tr (rKeep.tr rKeep.rf kJ rfl rfl rfl rfl rfl) qs329.1 rfl rfl rfl rfl rfl) hI (by omega)
                          obtain ⟨hT, hF⟩ := h
                          refine y_if_ne hC (pc := 297) 314 hy199_2 dX14_readOptions_297 (by decide) (fun c => ?_) (fun c => ?_)
                          · have h := hT c
                            refine z_aload_n hC (pc := 314) 1 dX14_readOptions_314 rfl rfl ?_
                            refine y_get hC (pc := 315) zf14 rOb_0 7 (v := .ref (κ (rR σ 7))) dX14_readOptions_315 zw2475 (rv_g rfl ((qs274.1.R rfl).trans ((qs242.1.R rfl).trans ((qs217.1.R rfl).trans (kJ.R rfl)))) g0) (kk := ?_)
                            refine y_getN hC (pc := 318) zf13 (rOb_k g0) 5 (v := .ref (κ (1000 * ((rR σ 7) + 1) + 5))) dX14_readOptions_318 zw2320 (rv_c rfl) (kk := ?_)
                            refine z_iload_n hC (pc := 321) 3 dX14_readOptions_321 rfl rfl ?_
                            refine z_iload hC (pc := 322) 0 dX14_readOptions_322 rfl ?_
                            obtain ⟨b247, h⟩ := h
                            refine y_iast hC (pc := 324) (rAr_k g0 rfl rfl) dX14_readOptions_324 b247 (v := v217) (kk := ?_)
                            have W248 := W244.sA (p := (1000 * ((rR σ 7) + 1) + 5)) (i := y199_2) (x := v217) hv217
                            refine z_lvs [1, 2, 0] rfl ?_
                            exact j325 (sT (sT s274 (rR σ 7) 2 v217 v274) (rR σ 7) 5 y199_2 v217) v217 W248 hv217 (rKeep.tr (rKeep.tr (rKeep.tr (rKeep.tr (rKeep.tr (rKeep.tr (rKeep.tr (rKeep.tr rKeep.rf kJ rfl rfl rfl rfl rfl) qs217.1 rfl rfl rfl rfl rfl) (rKeep.sF0 (f := 29)) rfl rfl rfl rfl rfl) qs242.1 rfl rfl rfl rfl rfl) (rKeep.sF0 (f := 29)) rfl rfl rfl rfl rfl) qs274.1 rfl rfl rfl rfl rfl) (rKeep.sAk (f := 2) g0 (by decide)) rfl rfl rfl rfl rfl) (rKeep.sAk (f := 5) g0 (by decide)) rfl rfl rfl rfl rfl) h
                          · have h := hF c
                            refine z_aload_n hC (pc := 300) 1 dX14_readOptions_300 rfl rfl ?_
                            refine y_get hC (pc := 301) zf14 rOb_0 7 (v := .ref (κ (rR σ 7))) dX14_readOptions_301 zw2475 (rv_g rfl ((qs274.1.R rfl).trans ((qs242.1.R rfl).trans ((qs217.1.R rfl).trans (kJ.R rfl)))) g0) (kk := ?_)
                            refine y_getN hC (pc := 304) zf13 (rOb_k g0) 2 (v := .ref (κ (1000 * ((rR σ 7) + 1) + 2))) dX14_readOptions_304 zw2314 (rv_c rfl) (kk := ?_)
                            refine z_iload_n hC (pc := 307) 2 dX14_readOptions_307 rfl rfl ?_
                            refine z_iload hC (pc := 308) 0 dX14_readOptions_308 rfl ?_
                            obtain ⟨b249, h⟩ := h
                            refine y_iast hC (pc := 310) (rAr_k g0 rfl rfl) dX14_readOptions_310 b249 (v := v217) (kk := ?_)
                            have W250 := W244.sA (p := (1000 * ((rR σ 7) + 1) + 2)) (i := x1) (x := v217) hv217
                            refine z_goto hC (pc := 311) 325 dX14_readOptions_311 (by decide) ?_
                            refine z_lvs [1, 2, 0] rfl ?_
                            exact j325 (sT (sT s274 (rR σ 7) 2 v217 v274) (rR σ 7) 2 x1 v217) v217 W250 hv217 (rKeep.tr (rKeep.tr (rKeep.tr (rKeep.tr (rKeep.tr (rKeep.tr (rKeep.tr (rKeep.tr rKeep.rf kJ rfl rfl rfl rfl rfl) qs217.1 rfl rfl rfl rfl rfl) (rKeep.sF0 (f := 29)) rfl rfl rfl rfl rfl) qs242.1 rfl rfl rfl rfl rfl) (rKeep.sF0 (f := 29)) rfl rfl rfl rfl rfl) qs274.1 rfl rfl rfl rfl rfl) (rKeep.sAk (f := 2) g0 (by decide)) rfl rfl rfl rfl rfl) (rKeep.sAk (f := 2) g0 (by decide)) rfl rfl rfl rfl rfl) h
                      · have h := hF c
                        exact y_retv hR dX14_readOptions_206 Ws199 (Nat.le_of_ble_eq_true rfl) (Nat.le_of_ble_eq_true rfl) ⟨(rKeep.tr rKeep.rf kJ rfl rfl rfl rfl rfl), h⟩
                    obtain ⟨hT, hF⟩ := h
                    refine y_if_eq hC (pc := 150) 199 hy148_5 dX14_readOptions_150 (by decide) (fun c => ?_) (fun c => ?_)
                    · have h := hT c
                      refine z_lvs [0, 1, 2, 3] rfl ?_
                      exact j199 s148 y148_2 y148_4 Ws148 hy148_2 hy148_4 (rKeep.tr rKeep.rf kJ rfl rfl rfl rfl rfl) h
                    · have h := hF c
                      refine z_aload_n hC (pc := 153) 0 dX14_readOptions_153 rfl rfl ?_
                      refine y_get hC (pc := 154) zf14 rOb_0 10 (v := iv (rF s148 0 10)) dX14_readOptions_154 zw2478 (rv_i (Or.inl rfl) rfl) (kk := ?_)
                      have h := h (Ws148.f _ _)
                      obtain ⟨hT, hF⟩ := h
                      refine y_if_ne hC (pc := 157) 199 (Ws148.f _ _) dX14_readOptions_157 (by decide) (fun c => ?_) (fun c => ?_)
                      · have h := hT c
                        refine z_lvs [0, 1, 2, 3] rfl ?_
                        exact j199 s148 y148_2 y148_4 Ws148 hy148_2 hy148_4 (rKeep.tr rKeep.rf kJ rfl rfl rfl rfl rfl) h
                      · have h := hF c
                        refine z_aload_n hC (pc := 160) 0 dX14_readOptions_160 rfl rfl ?_
                        refine y_get hC (pc := 161) zf14 rOb_0 7 (v := .ref (κ (rR σ 7))) dX14_readOptions_161 zw2475 (rv_g rfl (kJ.R rfl) g0) (kk := ?_)
                        refine y_getN hC (pc := 164) zf13 (rOb_k g0) 1 (v := .ref (κ (1000 * ((rR σ 7) + 1) + 1))) dX14_readOptions_164 zw2312 (rv_c rfl) (kk := ?_)
                        refine z_iload hC (pc := 167) 4 dX14_readOptions_167 rfl ?_
                        obtain ⟨b251, h⟩ := h
                        refine y_iald hC (pc := 169) (rAr_k g0 rfl rfl) dX14_readOptions_169 b251 (v := (rA s148 (1000 * ((rR σ 7) + 1) + 1) y148_5)) rfl (kk := ?_)
                        have h := h (Ws148.a _ _)
                        refine z_iload hC (pc := 170) 3 dX14_readOptions_170 rfl ?_
                        obtain ⟨hT, hF⟩ := h
                        refine y_icmp_ne hC (pc := 172) 184 (Ws148.a _ _) hy148_4 dX14_readOptions_172 (by decide) (fun c => ?_) (fun c => ?_)
                        · have h := hT c
                          refine z_aload_n hC (pc := 184) 0 dX14_readOptions_184 rfl rfl ?_
                          refine y_get hC (pc := 185) zf14 rOb_0 7 (v := .ref (κ (rR σ 7))) dX14_readOptions_185 zw2475 (rv_g rfl (kJ.R rfl) g0) (kk := ?_)
                          refine y_getN hC (pc := 188) zf13 (rOb_k g0) 5 (v := .ref (κ (1000 * ((rR σ 7) + 1) + 5))) dX14_readOptions_188 zw2320 (rv_c rfl) (kk := ?_)
                          refine z_iload hC (pc := 191) 4 dX14_readOptions_191 rfl ?_
                          obtain ⟨b252, h⟩ := h
                          refine y_iald hC (pc := 193) (rAr_k g0 rfl rfl) dX14_readOptions_193 b252 (v := (rA s148 (1000 * ((rR σ 7) + 1) + 5) y148_5)) rfl (kk := ?_)
                          have h := h (Ws148.a _ _)
                          refine z_istore hC (pc := 194) (lv' := [(5, iv (rA s148 (1000 * ((rR σ 7) + 1) + 5) y148_5)), (0, .ref (κ 0)), (1, iv x1), (2, iv y148_2), (4, iv y148_4)]) dX14_readOptions_194 (by decide) rfl ?_
                          refine z_goto hC (pc := 196) 148 dX14_readOptions_196 (by decide) ?_
                          refine z_lvs [1, 2, 3, 4, 0] rfl ?_
                          obtain ⟨hI, hm⟩ := h
                          exact ih148 s148 y148_2 y148_4 (rA s148 (1000 * ((rR σ 7) + 1) + 5) y148_5) Ws148 hy148_2 hy148_4 (Ws148.a _ _) (rKeep.tr rKeep.rf kJ rfl rfl rfl rfl rfl) hI (by omega)
                        · have h := hF c
                          refine z_aload_n hC (pc := 175) 0 dX14_readOptions_175 rfl rfl ?_
                          refine z_iconst hC (pc := 176) (v := Int32.ofInt 3) dX14_readOptions_176 (by decide) ?_
                          refine z_aload_n hC (pc := 177) 0 dX14_readOptions_177 rfl rfl ?_
                          obtain ⟨p253, h⟩ := h
                          refine y_callVi hC (pc := 178) (As := []) (kX14_place l G κ s148  Ws148  p253) dmX14_place zf14 rOb_0 dX14_readOptions_178 zw3103 rfl rfl (Nat.le_of_ble_eq_true rfl) (Nat.le_of_ble_eq_true rfl) (by omega) (by omega) (Nat.le_of_ble_eq_true rfl) (kk := fun v178 s178 hv178 Ws178 qs178 => ?_)
                          obtain ⟨es178, qs178⟩ := qs178
                          have es178 := es178.symm
                          subst es178
                          have h := h v178 hv178 qs178
                          obtain ⟨p254, h⟩ := h
                          refine y_callVv hC (pc := 181) (As := [iv 3, iv v178]) (kX14_bad l G κ s148 3 v178 Ws148 (r_lit rfl) hv178 p254) dmX14_bad zf14 rOb_0 dX14_readOptions_181 zw3000 rfl rfl (Nat.le_of_ble_eq_true rfl) (Nat.le_of_ble_eq_true rfl) (by omega) (by omega) (Nat.le_of_ble_eq_true rfl) (kk := fun s181 Ws181 qs181 => ?_)
                          have h := h s181 Ws181 (rNMp.keep qs181.1 rfl rfl rfl rfl rfl) (TPRp.keep qs181.1 rfl rfl rfl) (WNp.keep qs181.1 rfl rfl rfl rfl rfl) (PNp.keep qs181.1 rfl rfl rfl rfl rfl) (CCp.keep qs181.1 rfl rfl rfl rfl rfl rfl rfl) (qs181.1.R rfl) (qs181.1.F rfl) (qs181.1.F rfl) (qs181.1.F rfl) (qs181.1.F rfl) (qs181.1.F rfl) (qs181.1.F rfl) (qs181.1.F rfl) (qs181.1.F rfl) (qs181.1.F rfl) (qs181.1.F rfl) (fun i => qs181.1.A (f := 26) (by decide) rfl) (qs181.1.FG g0 rfl) (qs181.1.FG g0 rfl) (qs181.1.FG g0 rfl) (qs181.1.FG g0 rfl) (qs181.1.FG g0 rfl) (RG.keep (c0 := 0) qs181.1 rfl rfl rfl rfl rfl rfl rfl rfl rfl rfl rfl rfl rfl rfl rfl rfl rfl rfl) qs181.2
                          refine z_aload_n hC (pc := 184) 0 dX14_readOptions_184 rfl rfl ?_
                          refine y_get hC (pc := 185) zf14 rOb_0 7 (v := .ref (κ (rR σ 7))) dX14_readOptions_185 zw2475 (rv_g rfl ((qs181.1.R rfl).trans (kJ.R rfl)) g0) (kk := ?_)
                          refine y_getN hC (pc := 188) zf13 (rOb_k g0) 5 (v := .ref (κ (1000 * ((rR σ 7) + 1) + 5))) dX14_readOptions_188 zw2320 (rv_c rfl) (kk := ?_)
                          refine z_iload hC (pc := 191) 4 dX14_readOptions_191 rfl ?_
                          obtain ⟨b255, h⟩ := h
                          refine y_iald hC (pc := 193) (rAr_k g0 rfl rfl) dX14_readOptions_193 b255 (v := (rA s181 (1000 * ((rR σ 7) + 1) + 5) y148_5)) rfl (kk := ?_)
                          have h := h (Ws181.a _ _)
                          refine z_istore hC (pc := 194) (lv' := [(5, iv (rA s181 (1000 * ((rR σ 7) + 1) + 5) y148_5)), (0, .ref (κ 0)), (1, iv x1), (2, iv y148_2), (4, iv y148_4)]) dX14_readOptions_194 (by decide) rfl ?_
                          refine z_goto hC (pc := 196) 148 dX14_readOptions_196 (by decide) ?_
                          refine z_lvs [1, 2, 3, 4, 0] rfl ?_
                          obtain ⟨hI, hm⟩ := h
                          exact ih148 s181 y148_2 y148_4 (rA s181 (1000 * ((rR σ 7) + 1) + 5) y148_5) Ws181 hy148_2 hy148_4 (Ws181.a _ _) (rKeep.tr (rKeep.tr rKeep.rf kJ rfl rfl rfl rfl rfl) qs181.1 rfl rfl rfl rfl rfl) hI (by omega)
                refine z_lvs [2, 3, 4, 1, 0] rfl ?_
                exact j148 _ s47 y25_2 0 (rA s47 (1000 * ((rR σ 7) + 1) + 2) x1) Ws47 hy25_2 (r_lit rfl) (Ws47.a _ _) (rKeep.tr (rKeep.tr (rKeep.tr rKeep.rf kJ rfl rfl rfl rfl rfl) (rKeep.sF0 (f := 29)) rfl rfl rfl rfl rfl) qs47.1 rfl rfl rfl rfl rfl) h (Nat.le_refl _)
      refine z_lvs [2, 3, 1, 0] rfl ?_
      exact j25 _ s1 0 1 Ws1 (r_lit rfl) (r_lit rfl) (rKeep.tr rKeep.rf qs1.1 rfl rfl rfl rfl rfl) h (Nat.le_refl _)
    · have h := hF c
      exact y_retv hR dX14_readOptions_20 Ws1 (Nat.le_of_ble_eq_true rfl) (Nat.le_of_ble_eq_true rfl) ⟨(rKeep.tr rKeep.rf qs1.1 rfl rfl rfl rfl rfl), h⟩
theorem kX14_readOptions (l : Launch) (G : zG) (κ : Nat → Nat) (n : Nat) (ih : Q_rd l G κ n) (σ : rS) (x1 : Int) (gg : Nat) (g : Nat → Int → Int) (hwf : rWF σ) (hx1 : rng x1) (hp : pre_X14_readOptions σ x1 gg g) (hr : rk_X14_readOptions σ x1 gg g ≤ n + 1) : rMv l G κ yX14_readOptions cX14_readOptions 6 (n + 1 + 100) ((n + 1) * 40 + 3600) [.ref (κ 0), iv x1] σ (fun s => rKeep 0x6c0a3001c00 0x4100001280 0x13c00000000 0x3ee0000d7f 0 σ s ∧ post_X14_readOptions σ x1 gg g s) := wX14_readOptions l G κ n ih σ x1 gg g hwf hx1 (post_X14_readOptions σ x1 gg g) (vX14_readOptions n σ x1 gg g hwf hx1 hp hr) (vX14_readOptions_325 n σ x1 gg g hwf hx1 hp hr) (vX14_readOptions_199 n σ x1 gg g hwf hx1 hp hr) (vX14_readOptions_148 n σ x1 gg g hwf hx1 hp hr) (vX14_readOptions_148m n σ x1 gg g hwf hx1 hp hr) (vX14_readOptions_25 n σ x1 gg g hwf hx1 hp hr) (vX14_readOptions_25m n σ x1 gg g hwf hx1 hp hr)
