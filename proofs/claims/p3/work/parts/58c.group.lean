theorem wX14_readNamed (l : Launch) (G : zG) (κ : Nat → Nat) (n : Nat) (ih : Q_rd l G κ n) (σ : rS) (x1 : Int) (gg : Nat) (g : Nat → Int → Int) (K : Nat) (hwf : rWF σ) (hx1 : rng x1) (Q : Int → rS → Prop) (h : VC_X14_readNamed n σ x1 gg g K Q) (h_30 : VC_X14_readNamed_30 n σ x1 gg g K Q) (h_30m : VC_X14_readNamed_30m n σ x1 gg g K) : rMi l G κ yX14_readNamed cX14_readNamed 5 .int (n + 1 + 100) ((n + 1) * 40 + 3600) [.ref (κ 0), iv x1] σ (fun x s => rKeep 0x6c0a3001c00 0x4100001280 0x13c00000000 0x3ee0000d7f 0 σ s ∧ Q x s) := by
  refine zMi.intro (by decide +kernel) (Nat.le_of_ble_eq_true rfl) (fun X hC hR => ?_)
  obtain ⟨g0, h⟩ := h
  refine z_aload_n hC (pc := 0) 0 dX14_readNamed_0 rfl rfl ?_
  obtain ⟨p10, h⟩ := h
  refine y_callVi hC (pc := 1) (As := []) (kX14_tagName l G κ σ  hwf  p10) dmX14_tagName zf14 rOb_0 dX14_readNamed_1 zw3166 rfl rfl (Nat.le_of_ble_eq_true rfl) (Nat.le_of_ble_eq_true rfl) (by omega) (by omega) (Nat.le_of_ble_eq_true rfl) (kk := fun v1 s1 hv1 Ws1 qs1 => ?_)
  have h := h v1 s1 hv1 Ws1 (TPRp.keep qs1.1 rfl rfl rfl) (WNp.keep qs1.1 rfl rfl rfl rfl rfl) (PNp.keep qs1.1 rfl rfl rfl rfl rfl) (CCp.keep qs1.1 rfl rfl rfl rfl rfl rfl rfl) (qs1.1.R rfl) (qs1.1.F rfl) (qs1.1.F rfl) (qs1.1.F rfl) (qs1.1.F rfl) (qs1.1.F rfl) (qs1.1.F rfl) (qs1.1.F rfl) (qs1.1.F rfl) (qs1.1.F rfl) (qs1.1.FG g0 rfl) (qs1.1.FG g0 rfl) (qs1.1.FG g0 rfl) (fun i => qs1.1.AG (f := 33) g0 (by decide) rfl) (fun i => qs1.1.AG (f := 34) g0 (by decide) rfl) (fun i => qs1.1.AG (f := 35) g0 (by decide) rfl) (RG.keep (c0 := 0) qs1.1 rfl rfl rfl rfl rfl rfl rfl rfl rfl rfl rfl rfl rfl rfl rfl rfl rfl rfl) qs1.2
  refine z_istore_n hC (pc := 4) (lv' := [(2, iv v1), (0, .ref (κ 0)), (1, iv x1)]) dX14_readNamed_4 rfl (by decide) rfl ?_
  refine z_aload_n hC (pc := 5) 1 dX14_readNamed_5 rfl rfl ?_
  refine y_get hC (pc := 6) zf14 rOb_0 10 (v := iv (rF s1 0 10)) dX14_readNamed_6 zw2478 (rv_i (Or.inl rfl) rfl) (kk := ?_)
  have h := h (Ws1.f _ _)
  obtain ⟨hT, hF⟩ := h
  refine y_if_eq hC (pc := 9) 14 (Ws1.f _ _) dX14_readNamed_9 (by decide) (fun c => ?_) (fun c => ?_)
  · have h := hT c
    refine z_aload_n hC (pc := 14) 1 dX14_readNamed_14 rfl rfl ?_
    refine y_get hC (pc := 15) zf14 rOb_0 41 (v := iv (rF s1 0 41)) dX14_readNamed_15 zw2508 (rv_i (Or.inl rfl) rfl) (kk := ?_)
    have h := h (Ws1.f _ _)
    refine z_istore_n hC (pc := 18) (lv' := [(3, iv (rF s1 0 41)), (2, iv v1), (0, .ref (κ 0)), (1, iv x1)]) dX14_readNamed_18 rfl (by decide) rfl ?_
    refine z_aload_n hC (pc := 19) 2 dX14_readNamed_19 rfl rfl ?_
    refine y_get hC (pc := 20) zf14 rOb_0 7 (v := .ref (κ (rR σ 7))) dX14_readNamed_20 zw2475 (rv_g rfl ((qs1.1.R rfl).trans rfl) g0) (kk := ?_)
    refine y_getN hC (pc := 23) zf13 (rOb_k g0) 2 (v := .ref (κ (1000 * ((rR σ 7) + 1) + 2))) dX14_readNamed_23 zw2314 (rv_c rfl) (kk := ?_)
    refine z_iload_n hC (pc := 26) 3 dX14_readNamed_26 rfl rfl ?_
    obtain ⟨b11, h⟩ := h
    refine y_iald hC (pc := 27) (rAr_k g0 rfl rfl) dX14_readNamed_27 b11 (v := (rA s1 (1000 * ((rR σ 7) + 1) + 2) x1)) rfl (kk := ?_)
    have h := h (Ws1.a _ _)
    refine z_istore hC (pc := 28) (lv' := [(4, iv (rA s1 (1000 * ((rR σ 7) + 1) + 2) x1)), (3, iv (rF s1 0 41)), (2, iv v1), (0, .ref (κ 0)), (1, iv x1)]) dX14_readNamed_28 (by decide) rfl ?_
    have j30 : ∀ (d30 : Nat), ∀ (s30 : rS) (y30_2 : Int) (y30_3 : Int) (y30_4 : Int), rWF s30 → rng y30_2 → rng y30_3 → rng y30_4 → rKeep 0x6c0a3001c00 0x4100001280 0x13c00000000 0x3ee0000d7f 0 σ s30 → inv_X14_readNamed_30 σ x1 gg g K s30 y30_2 y30_3 y30_4 → (mu_X14_readNamed_30 σ x1 gg g K s30 y30_2 y30_3 y30_4) ≤ d30 → zS X G 5 (rW G κ s30) [(0, .ref (κ 0)), (1, iv x1), (2, iv y30_2), (3, iv y30_3), (4, iv y30_4)] 0 0 30 [] := by
      intro d30
      induction d30 with
      | zero =>
        intro s30 y30_2 y30_3 y30_4 Ws30 hy30_2 hy30_3 hy30_4 kJ hI hmu
        exact absurd hmu (by have := h_30m  s30 y30_2 y30_3 y30_4 Ws30 hy30_2 hy30_3 hy30_4 (TPRp.keep kJ rfl rfl rfl) (CCp.keep kJ rfl rfl rfl rfl rfl rfl rfl) (kJ.R rfl) (kJ.F rfl) (kJ.F rfl) (kJ.F rfl) (kJ.F rfl) (kJ.F rfl) (kJ.F rfl) hI; omega)
      | succ d30 ih30 =>
        intro s30 y30_2 y30_3 y30_4 Ws30 hy30_2 hy30_3 hy30_4 kJ hI hmu30
        have h := h_30  s30 y30_2 y30_3 y30_4 Ws30 hy30_2 hy30_3 hy30_4 (TPRp.keep kJ rfl rfl rfl) (CCp.keep kJ rfl rfl rfl rfl rfl rfl rfl) (kJ.R rfl) (kJ.F rfl) (kJ.F rfl) (kJ.F rfl) (kJ.F rfl) (kJ.F rfl) (kJ.F rfl) hI
        refine z_iload hC (pc := 30) 4 dX14_readNamed_30 rfl ?_
        obtain ⟨hT, hF⟩ := h
        refine y_if_eq hC (pc := 32) 70 hy30_4 dX14_readNamed_32 (by decide) (fun c => ?_) (fun c => ?_)
        · have h := hT c
          refine z_aload_n hC (pc := 70) 0 dX14_readNamed_70 rfl rfl ?_
          refine z_bipush hC (pc := 71) (v := Int32.ofInt 61) dX14_readNamed_71 (by decide) ?_
          obtain ⟨p12, h⟩ := h
          refine y_callVv hC (pc := 73) (As := [iv 61]) (kX14_need l G κ s30 61 Ws30 (r_lit rfl) p12) dmX14_need zf14 rOb_0 dX14_readNamed_73 zw3136 rfl rfl (Nat.le_of_ble_eq_true rfl) (Nat.le_of_ble_eq_true rfl) (by omega) (by omega) (Nat.le_of_ble_eq_true rfl) (kk := fun s73 Ws73 qs73 => ?_)
          have h := h s73 Ws73 (rNMp.keep qs73.1 rfl rfl rfl rfl rfl) (TPRp.keep qs73.1 rfl rfl rfl) (WNp.keep qs73.1 rfl rfl rfl rfl rfl) (PNp.keep qs73.1 rfl rfl rfl rfl rfl) (CCp.keep qs73.1 rfl rfl rfl rfl rfl rfl rfl) (qs73.1.R rfl) (qs73.1.F rfl) (qs73.1.F rfl) (qs73.1.F rfl) (qs73.1.F rfl) (qs73.1.F rfl) (qs73.1.F rfl) (qs73.1.F rfl) (qs73.1.F rfl) (qs73.1.F rfl) (qs73.1.F rfl) (qs73.1.FG g0 rfl) (qs73.1.FG g0 rfl) (qs73.1.FG g0 rfl) (qs73.1.FG g0 rfl) (qs73.1.FG g0 rfl) (fun i => qs73.1.AG (f := 33) g0 (by decide) rfl) (fun i => qs73.1.AG (f := 34) g0 (by decide) rfl) (fun i => qs73.1.AG (f := 35) g0 (by decide) rfl) (RG.keep (c0 := 0) qs73.1 rfl rfl rfl rfl rfl rfl rfl rfl rfl rfl rfl rfl rfl rfl rfl rfl rfl rfl) qs73.2
          refine z_aload_n hC (pc := 76) 0 dX14_readNamed_76 rfl rfl ?_
          refine y_get hC (pc := 77) zf14 rOb_0 10 (v := iv (rF s73 0 10)) dX14_readNamed_77 zw2478 (rv_i (Or.inl rfl) rfl) (kk := ?_)
          have h := h (Ws73.f _ _)
          obtain ⟨hT, hF⟩ := h
          refine y_if_eq hC (pc := 80) 85 (Ws73.f _ _) dX14_readNamed_80 (by decide) (fun c => ?_) (fun c => ?_)
          · have h := hT c
            refine z_aload_n hC (pc := 85) 0 dX14_readNamed_85 rfl rfl ?_
            refine z_bipush hC (pc := 86) (v := Int32.ofInt 51) dX14_readNamed_86 (by decide) ?_
            refine z_iconst hC (pc := 88) (v := Int32.ofInt 0) dX14_readNamed_88 (by decide) ?_
            refine z_iload_n hC (pc := 89) 2 dX14_readNamed_89 rfl rfl ?_
            refine z_iload_n hC (pc := 90) 3 dX14_readNamed_90 rfl rfl ?_
            obtain ⟨p13, h⟩ := h
            refine y_callVi hC (pc := 91) (As := [iv 51, iv 0, iv y30_2, iv y30_3]) (kX14_node_t l G κ s73 51 0 y30_2 y30_3 gg Ws73 (r_lit rfl) (r_lit rfl) hy30_2 hy30_3 p13) dmX14_node zf14 rOb_0 dX14_readNamed_91 zw3170 rfl rfl (Nat.le_of_ble_eq_true rfl) (Nat.le_of_ble_eq_true rfl) (by omega) (by omega) (Nat.le_of_ble_eq_true rfl) (kk := fun v91 s91 hv91 Ws91 qs91 => ?_)
            have h := h v91 s91 hv91 Ws91 (rNMp.keep qs91.1 rfl rfl rfl rfl rfl) (TPRp.keep qs91.1 rfl rfl rfl) (WNp.keep qs91.1 rfl rfl rfl rfl rfl) (CCp.keep qs91.1 rfl rfl rfl rfl rfl rfl rfl) (qs91.1.R rfl) (qs91.1.F rfl) (qs91.1.F rfl) (qs91.1.F rfl) (qs91.1.F rfl) (qs91.1.F rfl) (qs91.1.F rfl) (qs91.1.F rfl) (qs91.1.F rfl) (qs91.1.F rfl) (qs91.1.F rfl) (qs91.1.F rfl) (qs91.1.F rfl) (qs91.1.FG g0 rfl) (qs91.1.FG g0 rfl) (qs91.1.FG g0 rfl) (qs91.1.FG g0 rfl) (fun i => qs91.1.AG (f := 33) g0 (by decide) rfl) (fun i => qs91.1.AG (f := 34) g0 (by decide) rfl) (fun i => qs91.1.AG (f := 35) g0 (by decide) rfl) (fz_keep qs91.1 rfl) qs91.2
            refine z_istore hC (pc := 94) (lv' := [(4, iv v91), (0, .ref (κ 0)), (1, iv x1), (2, iv y30_2), (3, iv y30_3)]) dX14_readNamed_94 (by decide) rfl ?_
            refine z_aload_n hC (pc := 96) 1 dX14_readNamed_96 rfl rfl ?_
            refine z_bipush hC (pc := 97) (v := Int32.ofInt 51) dX14_readNamed_97 (by decide) ?_
            refine z_iload hC (pc := 99) 0 dX14_readNamed_99 rfl ?_
            refine z_iload_n hC (pc := 101) 2 dX14_readNamed_101 rfl rfl ?_
            refine z_iload_n hC (pc := 102) 4 dX14_readNamed_102 rfl rfl ?_
            obtain ⟨p14, h⟩ := h
            refine y_callVv hC (pc := 103) (As := [iv 51, iv v91, iv x1, iv y30_3]) (kX14_check_t l G κ s91 51 v91 x1 y30_3 gg Ws91 (r_lit rfl) hv91 hx1 hy30_3 p14) dmX14_check zf14 rOb_0 dX14_readNamed_103 zw3075 rfl rfl (Nat.le_of_ble_eq_true rfl) (Nat.le_of_ble_eq_true rfl) (by omega) (by omega) (Nat.le_of_ble_eq_true rfl) (kk := fun s103 Ws103 qs103 => ?_)
            have h := h s103 Ws103 (rNMp.keep qs103.1 rfl rfl rfl rfl rfl) (TPRp.keep qs103.1 rfl rfl rfl) (WNp.keep qs103.1 rfl rfl rfl rfl rfl) (PNp.keep qs103.1 rfl rfl rfl rfl rfl) (CCp.keep qs103.1 rfl rfl rfl rfl rfl rfl rfl) (qs103.1.R rfl) (qs103.1.F rfl) (qs103.1.F rfl) (qs103.1.F rfl) (qs103.1.F rfl) (qs103.1.F rfl) (qs103.1.F rfl) (qs103.1.F rfl) (qs103.1.F rfl) (qs103.1.F rfl) (qs103.1.F rfl) (qs103.1.F rfl) (qs103.1.F rfl) (qs103.1.FG g0 rfl) (qs103.1.FG g0 rfl) (qs103.1.FG g0 rfl) (qs103.1.FG g0 rfl) (fz_keep qs103.1 rfl) qs103.2
            refine z_aload_n hC (pc := 106) 1 dX14_readNamed_106 rfl rfl ?_
            refine y_get hC (pc := 107) zf14 rOb_0 7 (v := .ref (κ (rR σ 7))) dX14_readNamed_107 zw2475 (rv_g rfl ((qs103.1.R rfl).trans ((qs91.1.R rfl).trans ((qs73.1.R rfl).trans (kJ.R rfl)))) g0) (kk := ?_)
            refine y_getN hC (pc := 110) zf13 (rOb_k g0) 1 (v := .ref (κ (1000 * ((rR σ 7) + 1) + 1))) dX14_readNamed_110 zw2312 (rv_c rfl) (kk := ?_)
            refine z_iload hC (pc := 113) 0 dX14_readNamed_113 rfl ?_
            refine z_aload_n hC (pc := 115) 1 dX14_readNamed_115 rfl rfl ?_
            obtain ⟨g15, h⟩ := h
            obtain ⟨p16, h⟩ := h
            obtain ⟨p17, h⟩ := h
            refine y_callVi hC (pc := 116) (As := []) (qX14_readArg ih s103 gg g15 Ws103  p16 p17) dmX14_readArg zf14 rOb_0 dX14_readNamed_116 zw3234 rfl rfl (Nat.le_of_ble_eq_true rfl) (Nat.le_of_ble_eq_true rfl) (by omega) (by omega) (Nat.le_of_ble_eq_true rfl) (kk := fun v116 s116 hv116 Ws116 qs116 => ?_)
            have h := h v116 s116 hv116 Ws116 (TPRp.keep qs116.1 rfl rfl rfl) (CCp.keep qs116.1 rfl rfl rfl rfl rfl rfl rfl) (qs116.1.R rfl) (qs116.1.F rfl) (qs116.1.F rfl) (qs116.1.F rfl) (qs116.1.F rfl) (qs116.1.F rfl) (qs116.1.F rfl) qs116.2
            obtain ⟨b18, h⟩ := h
            refine y_iast hC (pc := 119) (rAr_k g0 rfl rfl) dX14_readNamed_119 b18 (v := v116) (kk := ?_)
            have W19 := Ws116.sA (p := (1000 * ((rR σ 7) + 1) + 1)) (i := v91) (x := v116) hv116
            refine z_iload hC (pc := 120) 0 dX14_readNamed_120 rfl ?_
            exact y_reti hR dX14_readNamed_122 rfl hv91 W19 (Nat.le_of_ble_eq_true rfl) (Nat.le_of_ble_eq_true rfl) ⟨(rKeep.tr (rKeep.tr (rKeep.tr (rKeep.tr (rKeep.tr (rKeep.tr rKeep.rf kJ rfl rfl rfl rfl rfl) qs73.1 rfl rfl rfl rfl rfl) qs91.1 rfl rfl rfl rfl rfl) qs103.1 rfl rfl rfl rfl rfl) qs116.1 rfl rfl rfl rfl rfl) (rKeep.sAk (f := 1) g0 (by decide)) rfl rfl rfl rfl rfl), h⟩
          · have h := hF c
            refine z_iconst hC (pc := 83) (v := Int32.ofInt 0) dX14_readNamed_83 (by decide) ?_
            exact y_reti hR dX14_readNamed_84 rfl (r_lit rfl) Ws73 (Nat.le_of_ble_eq_true rfl) (Nat.le_of_ble_eq_true rfl) ⟨(rKeep.tr (rKeep.tr rKeep.rf kJ rfl rfl rfl rfl rfl) qs73.1 rfl rfl rfl rfl rfl), h⟩
        · have h := hF c
          refine z_aload_n hC (pc := 35) 0 dX14_readNamed_35 rfl rfl ?_
          refine y_get hC (pc := 36) zf14 rOb_0 7 (v := .ref (κ (rR σ 7))) dX14_readNamed_36 zw2475 (rv_g rfl (kJ.R rfl) g0) (kk := ?_)
          refine y_getN hC (pc := 39) zf13 (rOb_k g0) 2 (v := .ref (κ (1000 * ((rR σ 7) + 1) + 2))) dX14_readNamed_39 zw2314 (rv_c rfl) (kk := ?_)
          refine z_iload hC (pc := 42) 4 dX14_readNamed_42 rfl ?_
          obtain ⟨b20, h⟩ := h
          refine y_iald hC (pc := 44) (rAr_k g0 rfl rfl) dX14_readNamed_44 b20 (v := (rA s30 (1000 * ((rR σ 7) + 1) + 2) y30_4)) rfl (kk := ?_)
          have h := h (Ws30.a _ _)
          refine z_iload_n hC (pc := 45) 2 dX14_readNamed_45 rfl rfl ?_
          obtain ⟨hT, hF⟩ := h
          refine y_icmp_ne hC (pc := 46) 55 (Ws30.a _ _) hy30_2 dX14_readNamed_46 (by decide) (fun c => ?_) (fun c => ?_)
          · have h := hT c
            refine z_aload_n hC (pc := 55) 0 dX14_readNamed_55 rfl rfl ?_
            refine y_get hC (pc := 56) zf14 rOb_0 7 (v := .ref (κ (rR σ 7))) dX14_readNamed_56 zw2475 (rv_g rfl (kJ.R rfl) g0) (kk := ?_)
            refine y_getN hC (pc := 59) zf13 (rOb_k g0) 5 (v := .ref (κ (1000 * ((rR σ 7) + 1) + 5))) dX14_readNamed_59 zw2320 (rv_c rfl) (kk := ?_)
            refine z_iload hC (pc := 62) 4 dX14_readNamed_62 rfl ?_
            obtain ⟨b21, h⟩ := h
            refine y_iald hC (pc := 64) (rAr_k g0 rfl rfl) dX14_readNamed_64 b21 (v := (rA s30 (1000 * ((rR σ 7) + 1) + 5) y30_4)) rfl (kk := ?_)
            have h := h (Ws30.a _ _)
            refine z_istore hC (pc := 65) (lv' := [(4, iv (rA s30 (1000 * ((rR σ 7) + 1) + 5) y30_4)), (0, .ref (κ 0)), (1, iv x1), (2, iv y30_2), (3, iv y30_3)]) dX14_readNamed_65 (by decide) rfl ?_
            refine z_goto hC (pc := 67) 30 dX14_readNamed_67 (by decide) ?_
            refine z_lvs [1, 2, 3, 4, 0] rfl ?_
            obtain ⟨hI, hm⟩ := h
            exact ih30 s30 y30_2 y30_3 (rA s30 (1000 * ((rR σ 7) + 1) + 5) y30_4) Ws30 hy30_2 hy30_3 (Ws30.a _ _) (rKeep.tr rKeep.rf kJ rfl rfl rfl rfl rfl) hI (by omega)
          · have h := hF c
            refine z_aload_n hC (pc := 49) 0 dX14_readNamed_49 rfl rfl ?_
            refine z_iconst hC (pc := 50) (v := Int32.ofInt 3) dX14_readNamed_50 (by decide) ?_
            refine z_iload_n hC (pc := 51) 3 dX14_readNamed_51 rfl rfl ?_
            obtain ⟨p22, h⟩ := h
            refine y_callVv hC (pc := 52) (As := [iv 3, iv y30_3]) (kX14_bad l G κ s30 3 y30_3 Ws30 (r_lit rfl) hy30_3 p22) dmX14_bad zf14 rOb_0 dX14_readNamed_52 zw3000 rfl rfl (Nat.le_of_ble_eq_true rfl) (Nat.le_of_ble_eq_true rfl) (by omega) (by omega) (Nat.le_of_ble_eq_true rfl) (kk := fun s52 Ws52 qs52 => ?_)
            have h := h s52 Ws52 (rNMp.keep qs52.1 rfl rfl rfl rfl rfl) (TPRp.keep qs52.1 rfl rfl rfl) (WNp.keep qs52.1 rfl rfl rfl rfl rfl) (PNp.keep qs52.1 rfl rfl rfl rfl rfl) (CCp.keep qs52.1 rfl rfl rfl rfl rfl rfl rfl) (qs52.1.R rfl) (qs52.1.F rfl) (qs52.1.F rfl) (qs52.1.F rfl) (qs52.1.F rfl) (qs52.1.F rfl) (qs52.1.F rfl) (qs52.1.F rfl) (qs52.1.F rfl) (qs52.1.F rfl) (qs52.1.F rfl) (qs52.1.F rfl) (qs52.1.FG g0 rfl) (qs52.1.FG g0 rfl) (qs52.1.FG g0 rfl) (qs52.1.FG g0 rfl) (qs52.1.FG g0 rfl) (fun i => qs52.1.AG (f := 33) g0 (by decide) rfl) (fun i => qs52.1.AG (f := 34) g0 (by decide) rfl) (fun i => qs52.1.AG (f := 35) g0 (by decide) rfl) (RG.keep (c0 := 0) qs52.1 rfl rfl rfl rfl rfl rfl rfl rfl rfl rfl rfl rfl rfl rfl rfl rfl rfl rfl) qs52.2
            refine z_aload_n hC (pc := 55) 0 dX14_readNamed_55 rfl rfl ?_
            refine y_get hC (pc := 56) zf14 rOb_0 7 (v := .ref (κ (rR σ 7))) dX14_readNamed_56 zw2475 (rv_g rfl ((qs52.1.R rfl).trans (kJ.R rfl)) g0) (kk := ?_)
            refine y_getN hC (pc := 59) zf13 (rOb_k g0) 5 (v := .ref (κ (1000 * ((rR σ 7) + 1) + 5))) dX14_readNamed_59 zw2320 (rv_c rfl) (kk := ?_)
            refine z_iload hC (pc := 62) 4 dX14_readNamed_62 rfl ?_
            obtain ⟨b23, h⟩ := h
            refine y_iald hC (pc := 64) (rAr_k g0 rfl rfl) dX14_readNamed_64 b23 (v := (rA s52 (1000 * ((rR σ 7) + 1) + 5) y30_4)) rfl (kk := ?_)
            have h := h (Ws52.a _ _)
            refine z_istore hC (pc := 65) (lv' := [(4, iv (rA s52 (1000 * ((rR σ 7) + 1) + 5) y30_4)), (0, .ref (κ 0)), (1, iv x1), (2, iv y30_2), (3, iv y30_3)]) dX14_readNamed_65 (by decide) rfl ?_
            refine z_goto hC (pc := 67) 30 dX14_readNamed_67 (by decide) ?_
            refine z_lvs [1, 2, 3, 4, 0] rfl ?_
            obtain ⟨hI, hm⟩ := h
            exact ih30 s52 y30_2 y30_3 (rA s52 (1000 * ((rR σ 7) + 1) + 5) y30_4) Ws52 hy30_2 hy30_3 (Ws52.a _ _) (rKeep.tr (rKeep.tr rKeep.rf kJ rfl rfl rfl rfl rfl) qs52.1 rfl rfl rfl rfl rfl) hI (by omega)
    refine z_lvs [3, 4, 2, 1, 0] rfl ?_
    exact j30 _ s1 v1 (rF s1 0 41) (rA s1 (1000 * ((rR σ 7) + 1) + 2) x1) Ws1 hv1 (Ws1.f _ _) (Ws1.a _ _) (rKeep.tr rKeep.rf qs1.1 rfl rfl rfl rfl rfl) h (Nat.le_refl _)
  · have h := hF c
    refine z_iconst hC (pc := 12) (v := Int32.ofInt 0) dX14_readNamed_12 (by decide) ?_
    exact y_reti hR dX14_readNamed_13 rfl (r_lit rfl) Ws1 (Nat.le_of_ble_eq_true rfl) (Nat.le_of_ble_eq_true rfl) ⟨(rKeep.tr rKeep.rf qs1.1 rfl rfl rfl rfl rfl), h⟩
theorem kX14_readNamed (l : Launch) (G : zG) (κ : Nat → Nat) (n : Nat) (ih : Q_rd l G κ n) (σ : rS) (x1 : Int) (gg : Nat) (g : Nat → Int → Int) (K : Nat) (hwf : rWF σ) (hx1 : rng x1) (hp : pre_X14_readNamed σ x1 gg g K) (hr : rk_X14_readNamed σ x1 gg g K ≤ n + 1) : rMi l G κ yX14_readNamed cX14_readNamed 5 .int (n + 1 + 100) ((n + 1) * 40 + 3600) [.ref (κ 0), iv x1] σ (fun x s => rKeep 0x6c0a3001c00 0x4100001280 0x13c00000000 0x3ee0000d7f 0 σ s ∧ post_X14_readNamed σ x1 gg g K x s) := wX14_readNamed l G κ n ih σ x1 gg g K hwf hx1 (post_X14_readNamed σ x1 gg g K) (vX14_readNamed n σ x1 gg g K hwf hx1 hp hr) (vX14_readNamed_30 n σ x1 gg g K hwf hx1 hp hr) (vX14_readNamed_30m n σ x1 gg g K hwf hx1 hp hr)
theorem wX14_readCall (l : Launch) (G : zG) (κ : Nat → Nat) (n : Nat) (ih : Q_rd l G κ n) (σ : rS) (x1 : Int) (x2 : Int) (gg : Nat) (g : Nat → Int → Int) (K : Nat) (hwf : rWF σ) (hx1 : rng x1) (hx2 : rng x2) (Q : Int → rS → Prop) (h : VC_X14_readCall n σ x1 x2 gg g K Q) : rMi l G κ yX14_readCall cX14_readCall 7 .int (n + 1 + 100) ((n + 1) * 40 + 3600) [.ref (κ 0), iv x1, iv x2] σ (fun x s => rKeep 0x6c0a3001c00 0x4100001280 0x13c00000000 0x3ee0000d7f 0 σ s ∧ Q x s) := by
  refine zMi.intro (by decide +kernel) (Nat.le_of_ble_eq_true rfl) (fun X hC hR => ?_)
  obtain ⟨g0, h⟩ := h
  refine z_aload_n hC (pc := 0) 0 dX14_readCall_0 rfl rfl ?_
  obtain ⟨p10, h⟩ := h
  refine y_callVi hC (pc := 1) (As := []) (kX14_place l G κ σ  hwf  p10) dmX14_place zf14 rOb_0 dX14_readCall_1 zw3103 rfl rfl (Nat.le_of_ble_eq_true rfl) (Nat.le_of_ble_eq_true rfl) (by omega) (by omega) (Nat.le_of_ble_eq_true rfl) (kk := fun v1 s1 hv1 Ws1 qs1 => ?_)
  obtain ⟨es1, qs1⟩ := qs1
  have es1 := es1.symm
  subst es1
  have h := h v1 hv1 qs1
  refine z_istore_n hC (pc := 4) (lv' := [(3, iv v1), (0, .ref (κ 0)), (1, iv x1), (2, iv x2)]) dX14_readCall_4 rfl (by decide) rfl ?_
  refine z_iload_n hC (pc := 5) 3 dX14_readCall_5 rfl rfl ?_
  obtain ⟨hT, hF⟩ := h
  refine y_if_eq hC (pc := 6) 25 hx2 dX14_readCall_6 (by decide) (fun c => ?_) (fun c => ?_)
  · have h := hT c
    refine z_aload_n hC (pc := 25) 1 dX14_readCall_25 rfl rfl ?_
    obtain ⟨p11, h⟩ := h
    refine y_callVi hC (pc := 26) (As := []) (kX14_tagName l G κ σ  hwf  p11) dmX14_tagName zf14 rOb_0 dX14_readCall_26 zw3166 rfl rfl (Nat.le_of_ble_eq_true rfl) (Nat.le_of_ble_eq_true rfl) (by omega) (by omega) (Nat.le_of_ble_eq_true rfl) (kk := fun v26 s26 hv26 Ws26 qs26 => ?_)
    have h := h v26 s26 hv26 Ws26 (TPRp.keep qs26.1 rfl rfl rfl) (WNp.keep qs26.1 rfl rfl rfl rfl rfl) (PNp.keep qs26.1 rfl rfl rfl rfl rfl) (CCp.keep qs26.1 rfl rfl rfl rfl rfl rfl rfl) (qs26.1.R rfl) (qs26.1.F rfl) (qs26.1.F rfl) (qs26.1.F rfl) (qs26.1.F rfl) (qs26.1.F rfl) (qs26.1.F rfl) (qs26.1.F rfl) (qs26.1.F rfl) (qs26.1.F rfl) (fun i => qs26.1.A (f := 26) (by decide) rfl) (qs26.1.FG g0 rfl) (qs26.1.FG g0 rfl) (qs26.1.FG g0 rfl) (fun i => qs26.1.AG (f := 33) g0 (by decide) rfl) (fun i => qs26.1.AG (f := 34) g0 (by decide) rfl) (fun i => qs26.1.AG (f := 35) g0 (by decide) rfl) (RG.keep (c0 := 0) qs26.1 rfl rfl rfl rfl rfl rfl rfl rfl rfl rfl rfl rfl rfl rfl rfl rfl rfl rfl) qs26.2
    refine z_istore hC (pc := 29) (lv' := [(4, iv v26), (3, iv v1), (0, .ref (κ 0)), (1, iv x1), (2, iv x2)]) dX14_readCall_29 (by decide) rfl ?_
    refine z_aload_n hC (pc := 31) 2 dX14_readCall_31 rfl rfl ?_
    refine y_get hC (pc := 32) zf14 rOb_0 10 (v := iv (rF s26 0 10)) dX14_readCall_32 zw2478 (rv_i (Or.inl rfl) rfl) (kk := ?_)
    have h := h (Ws26.f _ _)
    obtain ⟨hT, hF⟩ := h
    refine y_if_eq hC (pc := 35) 40 (Ws26.f _ _) dX14_readCall_35 (by decide) (fun c => ?_) (fun c => ?_)
    · have h := hT c
      refine z_aload_n hC (pc := 40) 2 dX14_readCall_40 rfl rfl ?_
      refine y_get hC (pc := 41) zf14 rOb_0 41 (v := iv (rF s26 0 41)) dX14_readCall_41 zw2508 (rv_i (Or.inl rfl) rfl) (kk := ?_)
      have h := h (Ws26.f _ _)
      refine z_istore hC (pc := 44) (lv' := [(5, iv (rF s26 0 41)), (4, iv v26), (3, iv v1), (0, .ref (κ 0)), (1, iv x1), (2, iv x2)]) dX14_readCall_44 (by decide) rfl ?_
      refine z_aload_n hC (pc := 46) 3 dX14_readCall_46 rfl rfl ?_
      obtain ⟨p12, h⟩ := h
      refine y_callVv hC (pc := 47) (As := []) (kX14_blanks l G κ s26  Ws26  p12) dmX14_blanks zf14 rOb_0 dX14_readCall_47 zw3119 rfl rfl (Nat.le_of_ble_eq_true rfl) (Nat.le_of_ble_eq_true rfl) (by omega) (by omega) (Nat.le_of_ble_eq_true rfl) (kk := fun s47 Ws47 qs47 => ?_)
      have h := h s47 Ws47 (rNMp.keep qs47.1 rfl rfl rfl rfl rfl) (TPRp.keep qs47.1 rfl rfl rfl) (WNp.keep qs47.1 rfl rfl rfl rfl rfl) (PNp.keep qs47.1 rfl rfl rfl rfl rfl) (CCp.keep qs47.1 rfl rfl rfl rfl rfl rfl rfl) (qs47.1.R rfl) (qs47.1.F rfl) (qs47.1.F rfl) (qs47.1.F rfl) (qs47.1.F rfl) (qs47.1.F rfl) (qs47.1.F rfl) (qs47.1.F rfl) (qs47.1.F rfl) (qs47.1.F rfl) (qs47.1.F rfl) (qs47.1.F rfl) (fun i => qs47.1.A (f := 26) (by decide) rfl) (qs47.1.FG g0 rfl) (qs47.1.FG g0 rfl) (qs47.1.FG g0 rfl) (qs47.1.FG g0 rfl) (qs47.1.FG g0 rfl) (fun i => qs47.1.AG (f := 33) g0 (by decide) rfl) (fun i => qs47.1.AG (f := 34) g0 (by decide) rfl) (fun i => qs47.1.AG (f := 35) g0 (by decide) rfl) (fz_keep qs47.1 rfl) (RG.keep (c0 := 0) qs47.1 rfl rfl rfl rfl rfl rfl rfl rfl rfl rfl rfl rfl rfl rfl rfl rfl rfl rfl) qs47.2
      refine z_aload_n hC (pc := 50) 3 dX14_readCall_50 rfl rfl ?_
      obtain ⟨p13, h⟩ := h
      refine y_callVi hC (pc := 51) (As := []) (kX14_here l G κ s47  Ws47  p13) dmX14_here zf14 rOb_0 dX14_readCall_51 zw3099 rfl rfl (Nat.le_of_ble_eq_true rfl) (Nat.le_of_ble_eq_true rfl) (by omega) (by omega) (Nat.le_of_ble_eq_true rfl) (kk := fun v51 s51 hv51 Ws51 qs51 => ?_)
      obtain ⟨es51, qs51⟩ := qs51
      have es51 := es51.symm
      subst es51
      have h := h v51 hv51 qs51
      refine z_bipush hC (pc := 54) (v := Int32.ofInt 40) dX14_readCall_54 (by decide) ?_
      obtain ⟨hT, hF⟩ := h
      refine y_icmp_eq hC (pc := 56) 90 hv51 (r_lit rfl) dX14_readCall_56 (by decide) (fun c => ?_) (fun c => ?_)
      · have h := hT c
        refine z_aload_n hC (pc := 90) 3 dX14_readCall_90 rfl rfl ?_
        refine z_dup hC (pc := 91) dX14_readCall_91 rfl ?_
        refine y_get hC (pc := 92) zf14 rOb_0 29 (v := iv (rF s47 0 29)) dX14_readCall_92 zw2496 (rv_i (Or.inl rfl) rfl) (kk := ?_)
        have h := h (Ws47.f _ _)
        refine z_iconst hC (pc := 95) (v := Int32.ofInt 1) dX14_readCall_95 (by decide) ?_
        refine y_iadd hC (pc := 96) (v := ((rF s47 0 29) + 1)) dX14_readCall_96 rfl ?_
        obtain ⟨r14, h⟩ := h
        refine y_putI hC (pc := 97) zf14 rOb_0 29 (x := ((rF s47 0 29) + 1)) dX14_readCall_97 zw2496 (Or.inl rfl) rfl rfl (kk := ?_)
        have W15 := Ws47.sF (q := 0) (f := 29) (x := ((rF s47 0 29) + 1)) r14
        refine z_aload_n hC (pc := 100) 3 dX14_readCall_100 rfl rfl ?_
        refine z_iload_n hC (pc := 101) 4 dX14_readCall_101 rfl rfl ?_
        refine z_iload hC (pc := 102) 1 dX14_readCall_102 rfl ?_
        refine z_iconst hC (pc := 104) (v := Int32.ofInt 0) dX14_readCall_104 (by decide) ?_
        refine z_iload hC (pc := 105) 0 dX14_readCall_105 rfl ?_
        obtain ⟨p16, h⟩ := h
        refine y_callVi hC (pc := 107) (As := [iv x1, iv v26, iv 0, iv (rF s26 0 41)]) (kX14_node_t l G κ (sF s47 0 29 ((rF s47 0 29) + 1)) x1 v26 0 (rF s26 0 41) gg W15 hx1 hv26 (r_lit rfl) (Ws26.f _ _) p16) dmX14_node zf14 rOb_0 dX14_readCall_107 zw3170 rfl rfl (Nat.le_of_ble_eq_true rfl) (Nat.le_of_ble_eq_true rfl) (by omega) (by omega) (Nat.le_of_ble_eq_true rfl) (kk := fun v107 s107 hv107 Ws107 qs107 => ?_)
        have h := h v107 s107 hv107 Ws107 (rNMp.keep qs107.1 rfl rfl rfl rfl rfl) (TPRp.keep qs107.1 rfl rfl rfl) (WNp.keep qs107.1 rfl rfl rfl rfl rfl) (CCp.keep qs107.1 rfl rfl rfl rfl rfl rfl rfl) (qs107.1.R rfl) (qs107.1.F rfl) (qs107.1.F rfl) (qs107.1.F rfl) (qs107.1.F rfl) (qs107.1.F rfl) (qs107.1.F rfl) (qs107.1.F rfl) (qs107.1.F rfl) (qs107.1.F rfl) (qs107.1.F rfl) (qs107.1.F rfl) (qs107.1.F rfl) (fun i => qs107.1.A (f := 26) (by decide) rfl) (qs107.1.FG g0 rfl) (qs107.1.FG g0 rfl) (qs107.1.FG g0 rfl) (qs107.1.FG g0 rfl) (fun i => qs107.1.AG (f := 33) g0 (by decide) rfl) (fun i => qs107.1.AG (f := 34) g0 (by decide) rfl) (fun i => qs107.1.AG (f := 35) g0 (by decide) rfl) (fz_keep qs107.1 rfl) qs107.2
        refine z_istore hC (pc := 110) (lv' := [(6, iv v107), (5, iv (rF s26 0 41)), (4, iv v26), (3, iv v1), (0, .ref (κ 0)), (1, iv x1), (2, iv x2)]) dX14_readCall_110 (by decide) rfl ?_
        refine z_aload_n hC (pc := 112) 4 dX14_readCall_112 rfl rfl ?_
        refine y_get hC (pc := 113) zf14 rOb_0 7 (v := .ref (κ (rR σ 7))) dX14_readCall_113 zw2475 (rv_g rfl ((qs107.1.R rfl).trans ((qs47.1.R rfl).trans ((qs26.1.R rfl).trans rfl))) g0) (kk := ?_)
        refine y_getN hC (pc := 116) zf13 (rOb_k g0) 4 (v := .ref (κ (1000 * ((rR σ 7) + 1) + 4))) dX14_readCall_116 zw2318 (rv_c rfl) (kk := ?_)
        refine z_iload hC (pc := 119) 0 dX14_readCall_119 rfl ?_
        refine z_iload_n hC (pc := 121) 6 dX14_readCall_121 rfl rfl ?_
        obtain ⟨hT, hF⟩ := h
        refine y_if_eq hC (pc := 122) 129 hx2 dX14_readCall_122 (by decide) (fun c => ?_) (fun c => ?_)
        · have h := hT c
          refine z_iconst hC (pc := 129) (v := Int32.ofInt 0) dX14_readCall_129 (by decide) ?_
          obtain ⟨b17, h⟩ := h
          refine y_iast hC (pc := 130) (rAr_k g0 rfl rfl) dX14_readCall_130 b17 (v := 0) (kk := ?_)
          have W18 := Ws107.sA (p := (1000 * ((rR σ 7) + 1) + 4)) (i := v107) (x := 0) (r_lit rfl)
          refine z_aload_n hC (pc := 131) 4 dX14_readCall_131 rfl rfl ?_
          refine z_iload_n hC (pc := 132) 5 dX14_readCall_132 rfl rfl ?_
          refine z_iload hC (pc := 133) 0 dX14_readCall_133 rfl ?_
          refine z_iconst hC (pc := 135) (v := Int32.ofInt 0) dX14_readCall_135 (by decide) ?_
          refine z_iload hC (pc := 136) 1 dX14_readCall_136 rfl ?_
          obtain ⟨p19, h⟩ := h
          refine y_callVv hC (pc := 138) (As := [iv x1, iv v107, iv 0, iv (rF s26 0 41)]) (kX14_check_t l G κ (sT s107 (rR σ 7) 4 v107 0) x1 v107 0 (rF s26 0 41) gg W18 hx1 hv107 (r_lit rfl) (Ws26.f _ _) p19) dmX14_check zf14 rOb_0 dX14_readCall_138 zw3075 rfl rfl (Nat.le_of_ble_eq_true rfl) (Nat.le_of_ble_eq_true rfl) (by omega) (by omega) (Nat.le_of_ble_eq_true rfl) (kk := fun s138 Ws138 qs138 => ?_)
          have h := h s138 Ws138 (rNMp.keep qs138.1 rfl rfl rfl rfl rfl) (TPRp.keep qs138.1 rfl rfl rfl) (WNp.keep qs138.1 rfl rfl rfl rfl rfl) (PNp.keep qs138.1 rfl rfl rfl rfl rfl) (CCp.keep qs138.1 rfl rfl rfl rfl rfl rfl rfl) (qs138.1.R rfl) (qs138.1.F rfl) (qs138.1.F rfl) (qs138.1.F rfl) (qs138.1.F rfl) (qs138.1.F rfl) (qs138.1.F rfl) (qs138.1.F rfl) (qs138.1.F rfl) (qs138.1.F rfl) (qs138.1.F rfl) (qs138.1.F rfl) (qs138.1.F rfl) (fun i => qs138.1.A (f := 26) (by decide) rfl) (qs138.1.FG g0 rfl) (qs138.1.FG g0 rfl) (qs138.1.FG g0 rfl) (qs138.1.FG g0 rfl) (fz_keep qs138.1 rfl) qs138.2
          refine z_aload_n hC (pc := 141) 4 dX14_readCall_141 rfl rfl ?_
          refine z_iload hC (pc := 142) 0 dX14_readCall_142 rfl ?_
          obtain ⟨g20, h⟩ := h
          obtain ⟨K21, h⟩ := h
          obtain ⟨p22, h⟩ := h
          obtain ⟨p23, h⟩ := h
          refine y_callVv hC (pc := 144) (As := [iv v107]) (qX14_readArgs ih s138 v107 gg g20 K21 Ws138 hv107 p22 p23) dmX14_readArgs zf14 rOb_0 dX14_readCall_144 zw3246 rfl rfl (Nat.le_of_ble_eq_true rfl) (Nat.le_of_ble_eq_true rfl) (by omega) (by omega) (Nat.le_of_ble_eq_true rfl) (kk := fun s144 Ws144 qs144 => ?_)
          have h := h s144 Ws144 (TPRp.keep qs144.1 rfl rfl rfl) (CCp.keep qs144.1 rfl rfl rfl rfl rfl rfl rfl) (qs144.1.R rfl) (qs144.1.F rfl) (qs144.1.F rfl) (qs144.1.F rfl) (qs144.1.F rfl) (qs144.1.F rfl) (qs144.1.F rfl) (fun i => qs144.1.A (f := 26) (by decide) rfl) qs144.2
          refine z_iload hC (pc := 147) 0 dX14_readCall_147 rfl ?_
          exact y_reti hR dX14_readCall_149 rfl hv107 Ws144 (Nat.le_of_ble_eq_true rfl) (Nat.le_of_ble_eq_true rfl) ⟨(rKeep.tr (rKeep.tr (rKeep.tr (rKeep.tr (rKeep.tr (rKeep.tr (rKeep.tr rKeep.rf qs26.1 rfl rfl rfl rfl rfl) qs47.1 rfl rfl rfl rfl rfl) (rKeep.sF0 (f := 29)) rfl rfl rfl rfl rfl) qs107.1 rfl rfl rfl rfl rfl) (rKeep.sAk (f := 4) g0 (by decide)) rfl rfl rfl rfl rfl) qs138.1 rfl rfl rfl rfl rfl) qs144.1 rfl rfl rfl rfl rfl), h⟩
        · have h := hF c
          refine z_iconst hC (pc := 125) (v := Int32.ofInt 1) dX14_readCall_125 (by decide) ?_
          refine z_goto hC (pc := 126) 130 dX14_readCall_126 (by decide) ?_
          obtain ⟨b24, h⟩ := h
          refine y_iast hC (pc := 130) (rAr_k g0 rfl rfl) dX14_readCall_130 b24 (v := 1) (kk := ?_)
          have W25 := Ws107.sA (p := (1000 * ((rR σ 7) + 1) + 4)) (i := v107) (x := 1) (r_lit rfl)
          refine z_aload_n hC (pc := 131) 4 dX14_readCall_131 rfl rfl ?_
          refine z_iload_n hC (pc := 132) 5 dX14_readCall_132 rfl rfl ?_
          refine z_iload hC (pc := 133) 0 dX14_readCall_133 rfl ?_
          refine z_iconst hC (pc := 135) (v := Int32.ofInt 0) dX14_readCall_135 (by decide) ?_
          refine z_iload hC (pc := 136) 1 dX14_readCall_136 rfl ?_
          obtain ⟨p26, h⟩ := h
          refine y_callVv hC (pc := 138) (As := [iv x1, iv v107, iv 0, iv (rF s26 0 41)]) (kX14_check_t l G κ (sT s107 (rR σ 7) 4 v107 1) x1 v107 0 (rF s26 0 41) gg W25 hx1 hv107 (r_lit rfl) (Ws26.f _ _) p26) dmX14_check zf14 rOb_0 dX14_readCall_138 zw3075 rfl rfl (Nat.le_of_ble_eq_true rfl) (Nat.le_of_ble_eq_true rfl) (by omega) (by omega) (Nat.le_of_ble_eq_true rfl) (kk := fun s138 Ws138 qs138 => ?_)
          have h := h s138 Ws138 (rNMp.keep qs138.1 rfl rfl rfl rfl rfl) (TPRp.keep qs138.1 rfl rfl rfl) (WNp.keep qs138.1 rfl rfl rfl rfl rfl) (PNp.keep qs138.1 rfl rfl rfl rfl rfl) (CCp.keep qs138.1 rfl rfl rfl rfl rfl rfl rfl) (qs138.1.R rfl) (qs138.1.F rfl) (qs138.1.F rfl) (qs138.1.F rfl) (qs138.1.F rfl) (qs138.1.F rfl) (qs138.1.F rfl) (qs138.1.F rfl) (qs138.1.F rfl) (qs138.1.F rfl) (qs138.1.F rfl) (qs138.1.F rfl) (qs138.1.F rfl) (fun i => qs138.1.A (f := 26) (by decide) rfl) (qs138.1.FG g0 rfl) (qs138.1.FG g0 rfl) (qs138.1.FG g0 rfl) (qs138.1.FG g0 rfl) (fz_keep qs138.1 rfl) qs138.2
          refine z_aload_n hC (pc := 141) 4 dX14_readCall_141 rfl rfl ?_
          refine z_iload hC (pc := 142) 0 dX14_readCall_142 rfl ?_
          obtain ⟨g27, h⟩ := h
          obtain ⟨K28, h⟩ := h
          obtain ⟨p29, h⟩ := h
          obtain ⟨p30, h⟩ := h
          refine y_callVv hC (pc := 144) (As := [iv v107]) (qX14_readArgs ih s138 v107 gg g27 K28 Ws138 hv107 p29 p30) dmX14_readArgs zf14 rOb_0 dX14_readCall_144 zw3246 rfl rfl (Nat.le_of_ble_eq_true rfl) (Nat.le_of_ble_eq_true rfl) (by omega) (by omega) (Nat.le_of_ble_eq_true rfl) (kk := fun s144 Ws144 qs144 => ?_)
          have h := h s144 Ws144 (TPRp.keep qs144.1 rfl rfl rfl) (CCp.keep qs144.1 rfl rfl rfl rfl rfl rfl rfl) (qs144.1.R rfl) (qs144.1.F rfl) (qs144.1.F rfl) (qs144.1.F rfl) (qs144.1.F rfl) (qs144.1.F rfl) (qs144.1.F rfl) (fun i => qs144.1.A (f := 26) (by decide) rfl) qs144.2
          refine z_iload hC (pc := 147) 0 dX14_readCall_147 rfl ?_
          exact y_reti hR dX14_readCall_149 rfl hv107 Ws144 (Nat.le_of_ble_eq_true rfl) (Nat.le_of_ble_eq_true rfl) ⟨(rKeep.tr (rKeep.tr (rKeep.tr (rKeep.tr (rKeep.tr (rKeep.tr (rKeep.tr rKeep.rf qs26.1 rfl rfl rfl rfl rfl) qs47.1 rfl rfl rfl rfl rfl) (rKeep.sF0 (f := 29)) rfl rfl rfl rfl rfl) qs107.1 rfl rfl rfl rfl rfl) (rKeep.sAk (f := 4) g0 (by decide)) rfl rfl rfl rfl rfl) qs138.1 rfl rfl rfl rfl rfl) qs144.1 rfl rfl rfl rfl rfl), h⟩
      · have h := hF c
        refine z_iload_n hC (pc := 59) 5 dX14_readCall_59 rfl rfl ?_
        obtain ⟨hT, hF⟩ := h
        refine y_if_ne hC (pc := 60) 69 hx2 dX14_readCall_60 (by decide) (fun c => ?_) (fun c => ?_)
        · have h := hT c
          refine z_aload_n hC (pc := 69) 3 dX14_readCall_69 rfl rfl ?_
          refine z_iconst hC (pc := 70) (v := Int32.ofInt 1) dX14_readCall_70 (by decide) ?_
          refine z_aload_n hC (pc := 71) 3 dX14_readCall_71 rfl rfl ?_
          obtain ⟨p31, h⟩ := h
          refine y_callVi hC (pc := 72) (As := []) (kX14_place l G κ s47  Ws47  p31) dmX14_place zf14 rOb_0 dX14_readCall_72 zw3103 rfl rfl (Nat.le_of_ble_eq_true rfl) (Nat.le_of_ble_eq_true rfl) (by omega) (by omega) (Nat.le_of_ble_eq_true rfl) (kk := fun v72 s72 hv72 Ws72 qs72 => ?_)
          obtain ⟨es72, qs72⟩ := qs72
          have es72 := es72.symm
          subst es72
          have h := h v72 hv72 qs72
          obtain ⟨p32, h⟩ := h
          refine y_callVv hC (pc := 75) (As := [iv 1, iv v72]) (kX14_bad l G κ s47 1 v72 Ws47 (r_lit rfl) hv72 p32) dmX14_bad zf14 rOb_0 dX14_readCall_75 zw3000 rfl rfl (Nat.le_of_ble_eq_true rfl) (Nat.le_of_ble_eq_true rfl) (by omega) (by omega) (Nat.le_of_ble_eq_true rfl) (kk := fun s75 Ws75 qs75 => ?_)
          have h := h s75 Ws75 (rNMp.keep qs75.1 rfl rfl rfl rfl rfl) (TPRp.keep qs75.1 rfl rfl rfl) (WNp.keep qs75.1 rfl rfl rfl rfl rfl) (PNp.keep qs75.1 rfl rfl rfl rfl rfl) (CCp.keep qs75.1 rfl rfl rfl rfl rfl rfl rfl) (qs75.1.R rfl) (qs75.1.F rfl) (qs75.1.F rfl) (qs75.1.F rfl) (qs75.1.F rfl) (qs75.1.F rfl) (qs75.1.F rfl) (qs75.1.F rfl) (qs75.1.F rfl) (qs75.1.F rfl) (qs75.1.F rfl) (qs75.1.F rfl) (fun i => qs75.1.A (f := 26) (by decide) rfl) (qs75.1.FG g0 rfl) (qs75.1.FG g0 rfl) (qs75.1.FG g0 rfl) (qs75.1.FG g0 rfl) (qs75.1.FG g0 rfl) (fun i => qs75.1.AG (f := 33) g0 (by decide) rfl) (fun i => qs75.1.AG (f := 34) g0 (by decide) rfl) (fun i => qs75.1.AG (f := 35) g0 (by decide) rfl) (RG.keep (c0 := 0) qs75.1 rfl rfl rfl rfl rfl rfl rfl rfl rfl rfl rfl rfl rfl rfl rfl rfl rfl rfl) qs75.2
          refine z_aload_n hC (pc := 78) 3 dX14_readCall_78 rfl rfl ?_
          refine z_bipush hC (pc := 79) (v := Int32.ofInt 35) dX14_readCall_79 (by decide) ?_
          refine z_iload hC (pc := 81) 1 dX14_readCall_81 rfl ?_
          refine z_iconst hC (pc := 83) (v := Int32.ofInt 0) dX14_readCall_83 (by decide) ?_
          refine z_iload hC (pc := 84) 0 dX14_readCall_84 rfl ?_
          obtain ⟨p33, h⟩ := h
          refine y_callVi hC (pc := 86) (As := [iv 35, iv v26, iv 0, iv (rF s26 0 41)]) (kX14_node_t l G κ s75 35 v26 0 (rF s26 0 41) gg Ws75 (r_lit rfl) hv26 (r_lit rfl) (Ws26.f _ _) p33) dmX14_node zf14 rOb_0 dX14_readCall_86 zw3170 rfl rfl (Nat.le_of_ble_eq_true rfl) (Nat.le_of_ble_eq_true rfl) (by omega) (by omega) (Nat.le_of_ble_eq_true rfl) (kk := fun v86 s86 hv86 Ws86 qs86 => ?_)
          have h := h v86 s86 hv86 Ws86 (rNMp.keep qs86.1 rfl rfl rfl rfl rfl) (TPRp.keep qs86.1 rfl rfl rfl) (WNp.keep qs86.1 rfl rfl rfl rfl rfl) (CCp.keep qs86.1 rfl rfl rfl rfl rfl rfl rfl) (qs86.1.R rfl) (qs86.1.F rfl) (qs86.1.F rfl) (qs86.1.F rfl) (qs86.1.F rfl) (qs86.1.F rfl) (qs86.1.F rfl) (qs86.1.F rfl) (qs86.1.F rfl) (qs86.1.F rfl) (qs86.1.F rfl) (qs86.1.F rfl) (qs86.1.F rfl) (fun i => qs86.1.A (f := 26) (by decide) rfl) (qs86.1.FG g0 rfl) (qs86.1.FG g0 rfl) (qs86.1.FG g0 rfl) (qs86.1.FG g0 rfl) (fun i => qs86.1.AG (f := 33) g0 (by decide) rfl) (fun i => qs86.1.AG (f := 34) g0 (by decide) rfl) (fun i => qs86.1.AG (f := 35) g0 (by decide) rfl) (fz_keep qs86.1 rfl) qs86.2
          exact y_reti hR dX14_readCall_89 rfl hv86 Ws86 (Nat.le_of_ble_eq_true rfl) (Nat.le_of_ble_eq_true rfl) ⟨(rKeep.tr (rKeep.tr (rKeep.tr (rKeep.tr rKeep.rf qs26.1 rfl rfl rfl rfl rfl) qs47.1 rfl rfl rfl rfl rfl) qs75.1 rfl rfl rfl rfl rfl) qs86.1 rfl rfl rfl rfl rfl), h⟩
        · have h := hF c
          refine z_iload_n hC (pc := 63) 4 dX14_readCall_63 rfl rfl ?_
          refine z_bipush hC (pc := 64) (v := Int32.ofInt 45) dX14_readCall_64 (by decide) ?_
          obtain ⟨hT, hF⟩ := h
          refine y_icmp_ne hC (pc := 66) 78 hx1 (r_lit rfl) dX14_readCall_66 (by decide) (fun c => ?_) (fun c => ?_)
          · have h := hT c
            refine z_aload_n hC (pc := 78) 3 dX14_readCall_78 rfl rfl ?_
            refine z_bipush hC (pc := 79) (v := Int32.ofInt 35) dX14_readCall_79 (by decide) ?_
            refine z_iload hC (pc := 81) 1 dX14_readCall_81 rfl ?_
            refine z_iconst hC (pc := 83) (v := Int32.ofInt 0) dX14_readCall_83 (by decide) ?_
            refine z_iload hC (pc := 84) 0 dX14_readCall_84 rfl ?_
            obtain ⟨p34, h⟩ := h
            refine y_callVi hC (pc := 86) (As := [iv 35, iv v26, iv 0, iv (rF s26 0 41)]) (kX14_node_t l G κ s47 35 v26 0 (rF s26 0 41) gg Ws47 (r_lit rfl) hv26 (r_lit rfl) (Ws26.f _ _) p34) dmX14_node zf14 rOb_0 dX14_readCall_86 zw3170 rfl rfl (Nat.le_of_ble_eq_true rfl) (Nat.le_of_ble_eq_true rfl) (by omega) (by omega) (Nat.le_of_ble_eq_true rfl) (kk := fun v86 s86 hv86 Ws86 qs86 => ?_)
            have h := h v86 s86 hv86 Ws86 (rNMp.keep qs86.1 rfl rfl rfl rfl rfl) (TPRp.keep qs86.1 rfl rfl rfl) (WNp.keep qs86.1 rfl rfl rfl rfl rfl) (CCp.keep qs86.1 rfl rfl rfl rfl rfl rfl rfl) (qs86.1.R rfl) (qs86.1.F rfl) (qs86.1.F rfl) (qs86.1.F rfl) (qs86.1.F rfl) (qs86.1.F rfl) (qs86.1.F rfl) (qs86.1.F rfl) (qs86.1.F rfl) (qs86.1.F rfl) (qs86.1.F rfl) (qs86.1.F rfl) (qs86.1.F rfl) (fun i => qs86.1.A (f := 26) (by decide) rfl) (qs86.1.FG g0 rfl) (qs86.1.FG g0 rfl) (qs86.1.FG g0 rfl) (qs86.1.FG g0 rfl) (fun i => qs86.1.AG (f := 33) g0 (by decide) rfl) (fun i => qs86.1.AG (f := 34) g0 (by decide) rfl) (fun i => qs86.1.AG (f := 35) g0 (by decide) rfl) (fz_keep qs86.1 rfl) qs86.2
            exact y_reti hR dX14_readCall_89 rfl hv86 Ws86 (Nat.le_of_ble_eq_true rfl) (Nat.le_of_ble_eq_true rfl) ⟨(rKeep.tr (rKeep.tr (rKeep.tr rKeep.rf qs26.1 rfl rfl rfl rfl rfl) qs47.1 rfl rfl rfl rfl rfl) qs86.1 rfl rfl rfl rfl rfl), h⟩
          · have h := hF c
            refine z_aload_n hC (pc := 69) 3 dX14_readCall_69 rfl rfl ?_
            refine z_iconst hC (pc := 70) (v := Int32.ofInt 1) dX14_readCall_70 (by decide) ?_
            refine z_aload_n hC (pc := 71) 3 dX14_readCall_71 rfl rfl ?_
            obtain ⟨p35, h⟩ := h
            refine y_callVi hC (pc := 72) (As := []) (kX14_place l G κ s47  Ws47  p35) dmX14_place zf14 rOb_0 dX14_readCall_72 zw3103 rfl rfl (Nat.le_of_ble_eq_true rfl) (Nat.le_of_ble_eq_true rfl) (by omega) (by omega) (Nat.le_of_ble_eq_true rfl) (kk := fun v72 s72 hv72 Ws72 qs72 => ?_)
            obtain ⟨es72, qs72⟩ := qs72
            have es72 := es72.symm
            subst es72
            have h := h v72 hv72 qs72
            obtain ⟨p36, h⟩ := h
            refine y_callVv hC (pc := 75) (As := [iv 1, iv v72]) (kX14_bad l G κ s47 1 v72 Ws47 (r_lit rfl) hv72 p36) dmX14_bad zf14 rOb_0 dX14_readCall_75 zw3000 rfl rfl (Nat.le_of_ble_eq_true rfl) (Nat.le_of_ble_eq_true rfl) (by omega) (by omega) (Nat.le_of_ble_eq_true rfl) (kk := fun s75 Ws75 qs75 => ?_)
            have h := h s75 Ws75 (rNMp.keep qs75.1 rfl rfl rfl rfl rfl) (TPRp.keep qs75.1 rfl rfl rfl) (WNp.keep qs75.1 rfl rfl rfl rfl rfl) (PNp.keep qs75.1 rfl rfl rfl rfl rfl) (CCp.keep qs75.1 rfl rfl rfl rfl rfl rfl rfl) (qs75.1.R rfl) (qs75.1.F rfl) (qs75.1.F rfl) (qs75.1.F rfl) (qs75.1.F rfl) (qs75.1.F rfl) (qs75.1.F rfl) (qs75.1.F rfl) (qs75.1.F rfl) (qs75.1.F rfl) (qs75.1.F rfl) (qs75.1.F rfl) (fun i => qs75.1.A (f := 26) (by decide) rfl) (qs75.1.FG g0 rfl) (qs75.1.FG g0 rfl) (qs75.1.FG g0 rfl) (qs75.1.FG g0 rfl) (qs75.1.FG g0 rfl) (fun i => qs75.1.AG (f := 33) g0 (by decide) rfl) (fun i => qs75.1.AG (f := 34) g0 (by decide) rfl) (fun i => qs75.1.AG (f := 35) g0 (by decide) rfl) (RG.keep (c0 := 0) qs75.1 rfl rfl rfl rfl rfl rfl rfl rfl rfl rfl rfl rfl rfl rfl rfl rfl rfl rfl) qs75.2
            refine z_aload_n hC (pc := 78) 3 dX14_readCall_78 rfl rfl ?_
            refine z_bipush hC (pc := 79) (v := Int32.ofInt 35) dX14_readCall_79 (by decide) ?_
            refine z_iload hC (pc := 81) 1 dX14_readCall_81 rfl ?_
            refine z_iconst hC (pc := 83) (v := Int32.ofInt 0) dX14_readCall_83 (by decide) ?_
            refine z_iload hC (pc := 84) 0 dX14_readCall_84 rfl ?_
            obtain ⟨p37, h⟩ := h
            refine y_callVi hC (pc := 86) (As := [iv 35, iv v26, iv 0, iv (rF s26 0 41)]) (kX14_node_t l G κ s75 35 v26 0 (rF s26 0 41) gg Ws75 (r_lit rfl) hv26 (r_lit rfl) (Ws26.f _ _) p37) dmX14_node zf14 rOb_0 dX14_readCall_86 zw3170 rfl rfl (Nat.le_of_ble_eq_true rfl) (Nat.le_of_ble_eq_true rfl) (by omega) (by omega) (Nat.le_of_ble_eq_true rfl) (kk := fun v86 s86 hv86 Ws86 qs86 => ?_)
            have h := h v86 s86 hv86 Ws86 (rNMp.keep qs86.1 rfl rfl rfl rfl rfl) (TPRp.keep qs86.1 rfl rfl rfl) (WNp.keep qs86.1 rfl rfl rfl rfl rfl) (CCp.keep qs86.1 rfl rfl rfl rfl rfl rfl rfl) (qs86.1.R rfl) (qs86.1.F rfl) (qs86.1.F rfl) (qs86.1.F rfl) (qs86.1.F rfl) (qs86.1.F rfl) (qs86.1.F rfl) (qs86.1.F rfl) (qs86.1.F rfl) (qs86.1.F rfl) (qs86.1.F rfl) (qs86.1.F rfl) (qs86.1.F rfl) (fun i => qs86.1.A (f := 26) (by decide) rfl) (qs86.1.FG g0 rfl) (qs86.1.FG g0 rfl) (qs86.1.FG g0 rfl) (qs86.1.FG g0 rfl) (fun i => qs86.1.AG (f := 33) g0 (by decide) rfl) (fun i => qs86.1.AG (f := 34) g0 (by decide) rfl) (fun i => qs86.1.AG (f := 35) g0 (by decide) rfl) (fz_keep qs86.1 rfl) qs86.2
            exact y_reti hR dX14_readCall_89 rfl hv86 Ws86 (Nat.le_of_ble_eq_true rfl) (Nat.le_of_ble_eq_true rfl) ⟨(rKeep.tr (rKeep.tr (rKeep.tr (rKeep.tr rKeep.rf qs26.1 rfl rfl rfl rfl rfl) qs47.1 rfl rfl rfl rfl rfl) qs75.1 rfl rfl rfl rfl rfl) qs86.1 rfl rfl rfl rfl rfl), h⟩
    · have h := hF c
      refine z_iconst hC (pc := 38) (v := Int32.ofInt 0) dX14_readCall_38 (by decide) ?_
      exact y_reti hR dX14_readCall_39 rfl (r_lit rfl) Ws26 (Nat.le_of_ble_eq_true rfl) (Nat.le_of_ble_eq_true rfl) ⟨(rKeep.tr rKeep.rf qs26.1 rfl rfl rfl rfl rfl), h⟩
  · have h := hF c
    refine z_aload_n hC (pc := 9) 1 dX14_readCall_9 rfl rfl ?_
    refine z_dup hC (pc := 10) dX14_readCall_10 rfl ?_
    refine y_get hC (pc := 11) zf14 rOb_0 29 (v := iv (rF σ 0 29)) dX14_readCall_11 zw2496 (rv_i (Or.inl rfl) rfl) (kk := ?_)
    have h := h (hwf.f _ _)
    refine z_iconst hC (pc := 14) (v := Int32.ofInt 5) dX14_readCall_14 (by decide) ?_
    refine y_iadd hC (pc := 15) (v := ((rF σ 0 29) + 5)) dX14_readCall_15 rfl ?_
    obtain ⟨r38, h⟩ := h
    refine y_putI hC (pc := 16) zf14 rOb_0 29 (x := ((rF σ 0 29) + 5)) dX14_readCall_16 zw2496 (Or.inl rfl) rfl rfl (kk := ?_)
    have W39 := hwf.sF (q := 0) (f := 29) (x := ((rF σ 0 29) + 5)) r38
    refine z_aload_n hC (pc := 19) 1 dX14_readCall_19 rfl rfl ?_
    refine z_bipush hC (pc := 20) (v := Int32.ofInt 46) dX14_readCall_20 (by decide) ?_
    obtain ⟨p40, h⟩ := h
    refine y_callVv hC (pc := 22) (As := [iv 46]) (kX14_need l G κ (sF σ 0 29 ((rF σ 0 29) + 5)) 46 W39 (r_lit rfl) p40) dmX14_need zf14 rOb_0 dX14_readCall_22 zw3136 rfl rfl (Nat.le_of_ble_eq_true rfl) (Nat.le_of_ble_eq_true rfl) (by omega) (by omega) (Nat.le_of_ble_eq_true rfl) (kk := fun s22 Ws22 qs22 => ?_)
    have h := h s22 Ws22 (rNMp.keep qs22.1 rfl rfl rfl rfl rfl) (TPRp.keep qs22.1 rfl rfl rfl) (WNp.keep qs22.1 rfl rfl rfl rfl rfl) (PNp.keep qs22.1 rfl rfl rfl rfl rfl) (CCp.keep qs22.1 rfl rfl rfl rfl rfl rfl rfl) (qs22.1.R rfl) (qs22.1.F rfl) (qs22.1.F rfl) (qs22.1.F rfl) (qs22.1.F rfl) (qs22.1.F rfl) (qs22.1.F rfl) (qs22.1.F rfl) (qs22.1.F rfl) (qs22.1.F rfl) (qs22.1.F rfl) (fun i => qs22.1.A (f := 26) (by decide) rfl) (qs22.1.FG g0 rfl) (qs22.1.FG g0 rfl) (qs22.1.FG g0 rfl) (qs22.1.FG g0 rfl) (qs22.1.FG g0 rfl) (fun i => qs22.1.AG (f := 33) g0 (by decide) rfl) (fun i => qs22.1.AG (f := 34) g0 (by decide) rfl) (fun i => qs22.1.AG (f := 35) g0 (by decide) rfl) (RG.keep (c0 := 0) qs22.1 rfl rfl rfl rfl rfl rfl rfl rfl rfl rfl rfl rfl rfl rfl rfl rfl rfl rfl) qs22.2
    refine z_aload_n hC (pc := 25) 1 dX14_readCall_25 rfl rfl ?_
    obtain ⟨p41, h⟩ := h
    refine y_callVi hC (pc := 26) (As := []) (kX14_tagName l G κ s22  Ws22  p41) dmX14_tagName zf14 rOb_0 dX14_readCall_26 zw3166 rfl rfl (Nat.le_of_ble_eq_true rfl) (Nat.le_of_ble_eq_true rfl) (by omega) (by omega) (Nat.le_of_ble_eq_true rfl) (kk := fun v26 s26 hv26 Ws26 qs26 => ?_)
    have h := h v26 s26 hv26 Ws26 (TPRp.keep qs26.1 rfl rfl rfl) (WNp.keep qs26.1 rfl rfl rfl rfl rfl) (PNp.keep qs26.1 rfl rfl rfl rfl rfl) (CCp.keep qs26.1 rfl rfl rfl rfl rfl rfl rfl) (qs26.1.R rfl) (qs26.1.F rfl) (qs26.1.F rfl) (qs26.1.F rfl) (qs26.1.F rfl) (qs26.1.F rfl) (qs26.1.F rfl) (qs26.1.F rfl) (qs26.1.F rfl) (qs26.1.F rfl) (fun i => qs26.1.A (f := 26) (by decide) rfl) (qs26.1.FG g0 rfl) (qs26.1.FG g0 rfl) (qs26.1.FG g0 rfl) (fun i => qs26.1.AG (f := 33) g0 (by decide) rfl) (fun i => qs26.1.AG (f := 34) g0 (by decide) rfl) (fun i => qs26.1.AG (f := 35) g0 (by decide) rfl) (RG.keep (c0 := 0) qs26.1 rfl rfl rfl rfl rfl rfl rfl rfl rfl rfl rfl rfl rfl rfl rfl rfl rfl rfl) qs26.2
    refine z_istore hC (pc := 29) (lv' := [(4, iv v26), (3, iv v1), (0, .ref (κ 0)), (1, iv x1), (2, iv x2)]) dX14_readCall_29 (by decide) rfl ?_
    refine z_aload_n hC (pc := 31) 2 dX14_readCall_31 rfl rfl ?_
    refine y_get hC (pc := 32) zf14 rOb_0 10 (v := iv (rF s26 0 10)) dX14_readCall_32 zw2478 (rv_i (Or.inl rfl) rfl) (kk := ?_)
    have h := h (Ws26.f _ _)
    obtain ⟨hT, hF⟩ := h
    refine y_if_eq hC (pc := 35) 40 (Ws26.f _ _) dX14_readCall_35 (by decide) (fun c => ?_) (fun c => ?_)
    · have h := hT c
      refine z_aload_n hC (pc := 40) 2 dX14_readCall_40 rfl rfl ?_
      refine y_get hC (pc := 41) zf14 rOb_0 41 (v := iv (rF s26 0 41)) dX14_readCall_41 zw2508 (rv_i (Or.inl rfl) rfl) (kk := ?_)
      have h := h (Ws26.f _ _)
      refine z_istore hC (pc := 44) (lv' := [(5, iv (rF s26 0 41)), (4, iv v26), (3, iv v1), (0, .ref (κ 0)), (1, iv x1), (2, iv x2)]) dX14_readCall_44 (by decide) rfl ?_
      refine z_aload_n hC (pc := 46) 3 dX14_readCall_46 rfl rfl ?_
      obtain ⟨p42, h⟩ := h
      refine y_callVv hC (pc := 47) (As := []) (kX14_blanks l G κ s26  Ws26  p42) dmX14_blanks zf14 rOb_0 dX14_readCall_47 zw3119 rfl rfl (Nat.le_of_ble_eq_true rfl) (Nat.le_of_ble_eq_true rfl) (by omega) (by omega) (Nat.le_of_ble_eq_true rfl) (kk := fun s47 Ws47 qs47 => ?_)
      have h := h s47 Ws47 (rNMp.keep qs47.1 rfl rfl rfl rfl rfl) (TPRp.keep qs47.1 rfl rfl rfl) (WNp.keep qs47.1 rfl rfl rfl rfl rfl) (PNp.keep qs47.1 rfl rfl rfl rfl rfl) (CCp.keep qs47.1 rfl rfl rfl rfl rfl rfl rfl) (qs47.1.R rfl) (qs47.1.F rfl) (qs47.1.F rfl) (qs47.1.F rfl) (qs47.1.F rfl) (qs47.1.F rfl) (qs47.1.F rfl) (qs47.1.F rfl) (qs47.1.F rfl) (qs47.1.F rfl) (qs47.1.F rfl) (qs47.1.F rfl) (fun i => qs47.1.A (f := 26) (by decide) rfl) (qs47.1.FG g0 rfl) (qs47.1.FG g0 rfl) (qs47.1.FG g0 rfl) (qs47.1.FG g0 rfl) (qs47.1.FG g0 rfl) (fun i => qs47.1.AG (f := 33) g0 (by decide) rfl) (fun i => qs47.1.AG (f := 34) g0 (by decide) rfl) (fun i => qs47.1.AG (f := 35) g0 (by decide) rfl) (fz_keep qs47.1 rfl) (RG.keep (c0 := 0) qs47.1 rfl rfl rfl rfl rfl rfl rfl rfl rfl rfl rfl rfl rfl rfl rfl rfl rfl rfl) qs47.2
      refine z_aload_n hC (pc := 50) 3 dX14_readCall_50 rfl rfl ?_
      obtain ⟨p43, h⟩ := h
      refine y_callVi hC (pc := 51) (As := []) (kX14_here l G κ s47  Ws47  p43) dmX14_here zf14 rOb_0 dX14_readCall_51 zw3099 rfl rfl (Nat.le_of_ble_eq_true rfl) (Nat.le_of_ble_eq_true rfl) (by omega) (by omega) (Nat.le_of_ble_eq_true rfl) (kk := fun v51 s51 hv51 Ws51 qs51 => ?_)
      obtain ⟨es51, qs51⟩ := qs51
      have es51 := es51.symm
      subst es51
      have h := h v51 hv51 qs51
      refine z_bipush hC (pc := 54) (v := Int32.ofInt 40) dX14_readCall_54 (by decide) ?_
      obtain ⟨hT, hF⟩ := h
      refine y_icmp_eq hC (pc := 56) 90 hv51 (r_lit rfl) dX14_readCall_56 (by decide) (fun c => ?_) (fun c => ?_)
      · have h := hT c
        refine z_aload_n hC (pc := 90) 3 dX14_readCall_90 rfl rfl ?_
        refine z_dup hC (pc := 91) dX14_readCall_91 rfl ?_
        refine y_get hC (pc := 92) zf14 rOb_0 29 (v := iv (rF s47 0 29)) dX14_readCall_92 zw2496 (rv_i (Or.inl rfl) rfl) (kk := ?_)
        have h := h (Ws47.f _ _)
        refine z_iconst hC (pc := 95) (v := Int32.ofInt 1) dX14_readCall_95 (by decide) ?_
        refine y_iadd hC (pc := 96) (v := ((rF s47 0 29) + 1)) dX14_readCall_96 rfl ?_
        obtain ⟨r44, h⟩ := h
        refine y_putI hC (pc := 97) zf14 rOb_0 29 (x := ((rF s47 0 29) + 1)) dX14_readCall_97 zw2496 (Or.inl rfl) rfl rfl (kk := ?_)
        have W45 := Ws47.sF (q := 0) (f := 29) (x := ((rF s47 0 29) + 1)) r44
        refine z_aload_n hC (pc := 100) 3 dX14_readCall_100 rfl rfl ?_
        refine z_iload_n hC (pc := 101) 4 dX14_readCall_101 rfl rfl ?_
        refine z_iload hC (pc := 102) 1 dX14_readCall_102 rfl ?_
        refine z_iconst hC (pc := 104) (v := Int32.ofInt 0) dX14_readCall_104 (by decide) ?_
        refine z_iload hC (pc := 105) 0 dX14_readCall_105 rfl ?_
        obtain ⟨p46, h⟩ := h
        refine y_callVi hC (pc := 107) (As := [iv x1, iv v26, iv 0, iv (rF s26 0 41)]) (kX14_node_t l G κ (sF s47 0 29 ((rF s47 0 29) + 1)) x1 v26 0 (rF s26 0 41) gg W45 hx1 hv26 (r_lit rfl) (Ws26.f _ _) p46) dmX14_node zf14 rOb_0 dX14_readCall_107 zw3170 rfl rfl (Nat.le_of_ble_eq_true rfl) (Nat.le_of_ble_eq_true rfl) (by omega) (by omega) (Nat.le_of_ble_eq_true rfl) (kk := fun v107 s107 hv107 Ws107 qs107 => ?_)
        have h := h v107 s107 hv107 Ws107 (rNMp.keep qs107.1 rfl rfl rfl rfl rfl) (TPRp.keep qs107.1 rfl rfl rfl) (WNp.keep qs107.1 rfl rfl rfl rfl rfl) (CCp.keep qs107.1 rfl rfl rfl rfl rfl rfl rfl) (qs107.1.R rfl) (qs107.1.F rfl) (qs107.1.F rfl) (qs107.1.F rfl) (qs107.1.F rfl) (qs107.1.F rfl) (qs107.1.F rfl) (qs107.1.F rfl) (qs107.1.F rfl) (qs107.1.F rfl) (qs107.1.F rfl) (qs107.1.F rfl) (qs107.1.F rfl) (fun i => qs107.1.A (f := 26) (by decide) rfl) (qs107.1.FG g0 rfl) (qs107.1.FG g0 rfl) (qs107.1.FG g0 rfl) (qs107.1.FG g0 rfl) (fun i => qs107.1.AG (f := 33) g0 (by decide) rfl) (fun i => qs107.1.AG (f := 34) g0 (by decide) rfl) (fun i => qs107.1.AG (f := 35) g0 (by decide) rfl) (fz_keep qs107.1 rfl) qs107.2
        refine z_istore hC (pc := 110) (lv' := [(6, iv v107), (5, iv (rF s26 0 41)), (4, iv v26), (3, iv v1), (0, .ref (κ 0)), (1, iv x1), (2, iv x2)]) dX14_readCall_110 (by decide) rfl ?_
        refine z_aload_n hC (pc := 112) 4 dX14_readCall_112 rfl rfl ?_
        refine y_get hC (pc := 113) zf14 rOb_0 7 (v := .ref (κ (rR σ 7))) dX14_readCall_113 zw2475 (rv_g rfl ((qs107.1.R rfl).trans ((qs47.1.R rfl).trans ((qs26.1.R rfl).trans ((qs22.1.R rfl).trans rfl)))) g0) (kk := ?_)
        refine y_getN hC (pc := 116) zf13 (rOb_k g0) 4 (v := .ref (κ (1000 * ((rR σ 7) + 1) + 4))) dX14_readCall_116 zw2318 (rv_c rfl) (kk := ?_)
        refine z_iload hC (pc := 119) 0 dX14_readCall_119 rfl ?_
        refine z_iload_n hC (pc := 121) 6 dX14_readCall_121 rfl rfl ?_
        obtain ⟨hT, hF⟩ := h
        refine y_if_eq hC (pc := 122) 129 hx2 dX14_readCall_122 (by decide) (fun c => ?_) (fun c => ?_)
        · have h := hT c
          refine z_iconst hC (pc := 129) (v := Int32.ofInt 0) dX14_readCall_129 (by decide) ?_
          obtain ⟨b47, h⟩ := h
          refine y_iast hC (pc := 130) (rAr_k g0 rfl rfl) dX14_readCall_130 b47 (v := 0) (kk := ?_)
          have W48 := Ws107.sA (p := (1000 * ((rR σ 7) + 1) + 4)) (i := v107) (x := 0) (r_lit rfl)
          refine z_aload_n hC (pc := 131) 4 dX14_readCall_131 rfl rfl ?_
          refine z_iload_n hC (pc := 132) 5 dX14_readCall_132 rfl rfl ?_
          refine z_iload hC (pc := 133) 0 dX14_readCall_133 rfl ?_
          refine z_iconst hC (pc := 135) (v := Int32.ofInt 0) dX14_readCall_135 (by decide) ?_
          refine z_iload hC (pc := 136) 1 dX14_readCall_136 rfl ?_
          obtain ⟨p49, h⟩ := h
          refine y_callVv hC (pc := 138) (As := [iv x1, iv v107, iv 0, iv (rF s26 0 41)]) (kX14_check_t l G κ (sT s107 (rR σ 7) 4 v107 0) x1 v107 0 (rF s26 0 41) gg W48 hx1 hv107 (r_lit rfl) (Ws26.f _ _) p49) dmX14_check zf14 rOb_0 dX14_readCall_138 zw3075 rfl rfl (Nat.le_of_ble_eq_true rfl) (Nat.le_of_ble_eq_true rfl) (by omega) (by omega) (Nat.le_of_ble_eq_true rfl) (kk := fun s138 Ws138 qs138 => ?_)
          have h := h s138 Ws138 (rNMp.keep qs138.1 rfl rfl rfl rfl rfl) (TPRp.keep qs138.1 rfl rfl rfl) (WNp.keep qs138.1 rfl rfl rfl rfl rfl) (PNp.keep qs138.1 rfl rfl rfl rfl rfl) (CCp.keep qs138.1 rfl rfl rfl rfl rfl rfl rfl) (qs138.1.R rfl) (qs138.1.F rfl) (qs138.1.F rfl) (qs138.1.F rfl) (qs138.1.F rfl) (qs138.1.F rfl) (qs138.1.F rfl) (qs138.1.F rfl) (qs138.1.F rfl) (qs138.1.F rfl) (qs138.1.F rfl) (qs138.1.F rfl) (qs138.1.F rfl) (fun i => qs138.1.A (f := 26) (by decide) rfl) (qs138.1.FG g0 rfl) (qs138.1.FG g0 rfl) (qs138.1.FG g0 rfl) (qs138.1.FG g0 rfl) (fz_keep qs138.1 rfl) qs138.2
          refine z_aload_n hC (pc := 141) 4 dX14_readCall_141 rfl rfl ?_
          refine z_iload hC (pc := 142) 0 dX14_readCall_142 rfl ?_
          obtain ⟨g50, h⟩ := h
          obtain ⟨K51, h⟩ := h
          obtain ⟨p52, h⟩ := h
          obtain ⟨p53, h⟩ := h
          refine y_callVv hC (pc := 144) (As := [iv v107]) (qX14_readArgs ih s138 v107 gg g50 K51 Ws138 hv107 p52 p53) dmX14_readArgs zf14 rOb_0 dX14_readCall_144 zw3246 rfl rfl (Nat.le_of_ble_eq_true rfl) (Nat.le_of_ble_eq_true rfl) (by omega) (by omega) (Nat.le_of_ble_eq_true rfl) (kk := fun s144 Ws144 qs144 => ?_)
          have h := h s144 Ws144 (TPRp.keep qs144.1 rfl rfl rfl) (CCp.keep qs144.1 rfl rfl rfl rfl rfl rfl rfl) (qs144.1.R rfl) (qs144.1.F rfl) (qs144.1.F rfl) (qs144.1.F rfl) (qs144.1.F rfl) (qs144.1.F rfl) (qs144.1.F rfl) (fun i => qs144.1.A (f := 26) (by decide) rfl) qs144.2
          refine z_iload hC (pc := 147) 0 dX14_readCall_147 rfl ?_
          exact y_reti hR dX14_readCall_149 rfl hv107 Ws144 (Nat.le_of_ble_eq_true rfl) (Nat.le_of_ble_eq_true rfl) ⟨(rKeep.tr (rKeep.tr (rKeep.tr (rKeep.tr (rKeep.tr (rKeep.tr (rKeep.tr (rKeep.tr (rKeep.tr rKeep.rf (rKeep.sF0 (f := 29)) rfl rfl rfl rfl rfl) qs22.1 rfl rfl rfl rfl rfl) qs26.1 rfl rfl rfl rfl rfl) qs47.1 rfl rfl rfl rfl rfl) (rKeep.sF0 (f := 29)) rfl rfl rfl rfl rfl) qs107.1 rfl rfl rfl rfl rfl) (rKeep.sAk (f := 4) g0 (by decide)) rfl rfl rfl rfl rfl) qs138.1 rfl rfl rfl rfl rfl) qs144.1 rfl rfl rfl rfl rfl), h⟩
        · have h := hF c
          refine z_iconst hC (pc := 125) (v := Int32.ofInt 1) dX14_readCall_125 (by decide) ?_
          refine z_goto hC (pc := 126) 130 dX14_readCall_126 (by decide) ?_
          obtain ⟨b54, h⟩ := h
          refine y_iast hC (pc := 130) (rAr_k g0 rfl rfl) dX14_readCall_130 b54 (v := 1) (kk := ?_)
          have W55 := Ws107.sA (p := (1000 * ((rR σ 7) + 1) + 4)) (i := v107) (x := 1) (r_lit rfl)
          refine z_aload_n hC (pc := 131) 4 dX14_readCall_131 rfl rfl ?_
          refine z_iload_n hC (pc := 132) 5 dX14_readCall_132 rfl rfl ?_
          refine z_iload hC (pc := 133) 0 dX14_readCall_133 rfl ?_
          refine z_iconst hC (pc := 135) (v := Int32.ofInt 0) dX14_readCall_135 (by decide) ?_
          refine z_iload hC (pc := 136) 1 dX14_readCall_136 rfl ?_
          obtain ⟨p56, h⟩ := h
          refine y_callVv hC (pc := 138) (As := [iv x1, iv v107, iv 0, iv (rF s26 0 41)]) (kX14_check_t l G κ (sT s107 (rR σ 7) 4 v107 1) x1 v107 0 (rF s26 0 41) gg W55 hx1 hv107 (r_lit rfl) (Ws26.f _ _) p56) dmX14_check zf14 rOb_0 dX14_readCall_138 zw3075 rfl rfl (Nat.le_of_ble_eq_true rfl) (Nat.le_of_ble_eq_true rfl) (by omega) (by omega) (Nat.le_of_ble_eq_true rfl) (kk := fun s138 Ws138 qs138 => ?_)
          have h := h s138 Ws138 (rNMp.keep qs138.1 rfl rfl rfl rfl rfl) (TPRp.keep qs138.1 rfl rfl rfl) (WNp.keep qs138.1 rfl rfl rfl rfl rfl) (PNp.keep qs138.1 rfl rfl rfl rfl rfl) (CCp.keep qs138.1 rfl rfl rfl rfl rfl rfl rfl) (qs138.1.R rfl) (qs138.1.F rfl) (qs138.1.F rfl) (qs138.1.F rfl) (qs138.1.F rfl) (qs138.1.F rfl) (qs138.1.F rfl) (qs138.1.F rfl) (qs138.1.F rfl) (qs138.1.F rfl) (qs138.1.F rfl) (qs138.1.F rfl) (qs138.1.F rfl) (fun i => qs138.1.A (f := 26) (by decide) rfl) (qs138.1.FG g0 rfl) (qs138.1.FG g0 rfl) (qs138.1.FG g0 rfl) (qs138.1.FG g0 rfl) (fz_keep qs138.1 rfl) qs138.2
          refine z_aload_n hC (pc := 141) 4 dX14_readCall_141 rfl rfl ?_
          refine z_iload hC (pc := 142) 0 dX14_readCall_142 rfl ?_
          obtain ⟨g57, h⟩ := h
          obtain ⟨K58, h⟩ := h
          obtain ⟨p59, h⟩ := h
          obtain ⟨p60, h⟩ := h
          refine y_callVv hC (pc := 144) (As := [iv v107]) (qX14_readArgs ih s138 v107 gg g57 K58 Ws138 hv107 p59 p60) dmX14_readArgs zf14 rOb_0 dX14_readCall_144 zw3246 rfl rfl (Nat.le_of_ble_eq_true rfl) (Nat.le_of_ble_eq_true rfl) (by omega) (by omega) (Nat.le_of_ble_eq_true rfl) (kk := fun s144 Ws144 qs144 => ?_)
          have h := h s144 Ws144 (TPRp.keep qs144.1 rfl rfl rfl) (CCp.keep qs144.1 rfl rfl rfl rfl rfl rfl rfl) (qs144.1.R rfl) (qs144.1.F rfl) (qs144.1.F rfl) (qs144.1.F rfl) (qs144.1.F rfl) (qs144.1.F rfl) (qs144.1.F rfl) (fun i => qs144.1.A (f := 26) (by decide) rfl) qs144.2
          refine z_iload hC (pc := 147) 0 dX14_readCall_147 rfl ?_
          exact y_reti hR dX14_readCall_149 rfl hv107 Ws144 (Nat.le_of_ble_eq_true rfl) (Nat.le_of_ble_eq_true rfl) ⟨(rKeep.tr (rKeep.tr (rKeep.tr (rKeep.tr (rKeep.tr (rKeep.tr (rKeep.tr (rKeep.tr (rKeep.tr rKeep.rf (rKeep.sF0 (f := 29)) rfl rfl rfl rfl rfl) qs22.1 rfl rfl rfl rfl rfl) qs26.1 rfl rfl rfl rfl rfl) qs47.1 rfl rfl rfl rfl rfl) (rKeep.sF0 (f := 29)) rfl rfl rfl rfl rfl) qs107.1 rfl rfl rfl rfl rfl) (rKeep.sAk (f := 4) g0 (by decide)) rfl rfl rfl rfl rfl) qs138.1 rfl rfl rfl rfl rfl) qs144.1 rfl rfl rfl rfl rfl), h⟩
      · have h := hF c
        refine z_iload_n hC (pc := 59) 5 dX14_readCall_59 rfl rfl ?_
        obtain ⟨hT, hF⟩ := h
        refine y_if_ne hC (pc := 60) 69 hx2 dX14_readCall_60 (by decide) (fun c => ?_) (fun c => ?_)
        · have h := hT c
          refine z_aload_n hC (pc := 69) 3 dX14_readCall_69 rfl rfl ?_
          refine z_iconst hC (pc := 70) (v := Int32.ofInt 1) dX14_readCall_70 (by decide) ?_
          refine z_aload_n hC (pc := 71) 3 dX14_readCall_71 rfl rfl ?_
          obtain ⟨p61, h⟩ := h
          refine y_callVi hC (pc := 72) (As := []) (kX14_place l G κ s47  Ws47  p61) dmX14_place zf14 rOb_0 dX14_readCall_72 zw3103 rfl rfl (Nat.le_of_ble_eq_true rfl) (Nat.le_of_ble_eq_true rfl) (by omega) (by omega) (Nat.le_of_ble_eq_true rfl) (kk := fun v72 s72 hv72 Ws72 qs72 => ?_)
          obtain ⟨es72, qs72⟩ := qs72
          have es72 := es72.symm
          subst es72
          have h := h v72 hv72 qs72
          obtain ⟨p62, h⟩ := h
          refine y_callVv hC (pc := 75) (As := [iv 1, iv v72]) (kX14_bad l G κ s47 1 v72 Ws47 (r_lit rfl) hv72 p62) dmX14_bad zf14 rOb_0 dX14_readCall_75 zw3000 rfl rfl (Nat.le_of_ble_eq_true rfl) (Nat.le_of_ble_eq_true rfl) (by omega) (by omega) (Nat.le_of_ble_eq_true rfl) (kk := fun s75 Ws75 qs75 => ?_)
          have h := h s75 Ws75 (rNMp.keep qs75.1 rfl rfl rfl rfl rfl) (TPRp.keep qs75.1 rfl rfl rfl) (WNp.keep qs75.1 rfl rfl rfl rfl rfl) (PNp.keep qs75.1 rfl rfl rfl rfl rfl) (CCp.keep qs75.1 rfl rfl rfl rfl rfl rfl rfl) (qs75.1.R rfl) (qs75.1.F rfl) (qs75.1.F rfl) (qs75.1.F rfl) (qs75.1.F rfl) (qs75.1.F rfl) (qs75.1.F rfl) (qs75.1.F rfl) (qs75.1.F rfl) (qs75.1.F rfl) (qs75.1.F rfl) (qs75.1.F rfl) (fun i => qs75.1.A (f := 26) (by decide) rfl) (qs75.1.FG g0 rfl) (qs75.1.FG g0 rfl) (qs75.1.FG g0 rfl) (qs75.1.FG g0 rfl) (qs75.1.FG g0 rfl) (fun i => qs75.1.AG (f := 33) g0 (by decide) rfl) (fun i => qs75.1.AG (f := 34) g0 (by decide) rfl) (fun i => qs75.1.AG (f := 35) g0 (by decide) rfl) (RG.keep (c0 := 0) qs75.1 rfl rfl rfl rfl rfl rfl rfl rfl rfl rfl rfl rfl rfl rfl rfl rfl rfl rfl) qs75.2
          refine z_aload_n hC (pc := 78) 3 dX14_readCall_78 rfl rfl ?_
          refine z_bipush hC (pc := 79) (v := Int32.ofInt 35) dX14_readCall_79 (by decide) ?_
          refine z_iload hC (pc := 81) 1 dX14_readCall_81 rfl ?_
          refine z_iconst hC (pc := 83) (v := Int32.ofInt 0) dX14_readCall_83 (by decide) ?_
          refine z_iload hC (pc := 84) 0 dX14_readCall_84 rfl ?_
          obtain ⟨p63, h⟩ := h
          refine y_callVi hC (pc := 86) (As := [iv 35, iv v26, iv 0, iv (rF s26 0 41)]) (kX14_node_t l G κ s75 35 v26 0 (rF s26 0 41) gg Ws75 (r_lit rfl) hv26 (r_lit rfl) (Ws26.f _ _) p63) dmX14_node zf14 rOb_0 dX14_readCall_86 zw3170 rfl rfl (Nat.le_of_ble_eq_true rfl) (Nat.le_of_ble_eq_true rfl) (by omega) (by omega) (Nat.le_of_ble_eq_true rfl) (kk := fun v86 s86 hv86 Ws86 qs86 => ?_)
          have h := h v86 s86 hv86 Ws86 (rNMp.keep qs86.1 rfl rfl rfl rfl rfl) (TPRp.keep qs86.1 rfl rfl rfl) (WNp.keep qs86.1 rfl rfl rfl rfl rfl) (CCp.keep qs86.1 rfl rfl rfl rfl rfl rfl rfl) (qs86.1.R rfl) (qs86.1.F rfl) (qs86.1.F rfl) (qs86.1.F rfl) (qs86.1.F rfl) (qs86.1.F rfl) (qs86.1.F rfl) (qs86.1.F rfl) (qs86.1.F rfl) (qs86.1.F rfl) (qs86.1.F rfl) (qs86.1.F rfl) (qs86.1.F rfl) (fun i => qs86.1.A (f := 26) (by decide) rfl) (qs86.1.FG g0 rfl) (qs86.1.FG g0 rfl) (qs86.1.FG g0 rfl) (qs86.1.FG g0 rfl) (fun i => qs86.1.AG (f := 33) g0 (by decide) rfl) (fun i => qs86.1.AG (f := 34) g0 (by decide) rfl) (fun i => qs86.1.AG (f := 35) g0 (by decide) rfl) (fz_keep qs86.1 rfl) qs86.2
          exact y_reti hR dX14_readCall_89 rfl hv86 Ws86 (Nat.le_of_ble_eq_true rfl) (Nat.le_of_ble_eq_true rfl) ⟨(rKeep.tr (rKeep.tr (rKeep.tr (rKeep.tr (rKeep.tr (rKeep.tr rKeep.rf (rKeep.sF0 (f := 29)) rfl rfl rfl rfl rfl) qs22.1 rfl rfl rfl rfl rfl) qs26.1 rfl rfl rfl rfl rfl) qs47.1 rfl rfl rfl rfl rfl) qs75.1 rfl rfl rfl rfl rfl) qs86.1 rfl rfl rfl rfl rfl), h⟩
        · have h := hF c
          refine z_iload_n hC (pc := 63) 4 dX14_readCall_63 rfl rfl ?_
          refine z_bipush hC (pc := 64) (v := Int32.ofInt 45) dX14_readCall_64 (by decide) ?_
          obtain ⟨hT, hF⟩ := h
          refine y_icmp_ne hC (pc := 66) 78 hx1 (r_lit rfl) dX14_readCall_66 (by decide) (fun c => ?_) (fun c => ?_)
          · have h := hT c
            refine z_aload_n hC (pc := 78) 3 dX14_readCall_78 rfl rfl ?_
            refine z_bipush hC (pc := 79) (v := Int32.ofInt 35) dX14_readCall_79 (by decide) ?_
            refine z_iload hC (pc := 81) 1 dX14_readCall_81 rfl ?_
            refine z_iconst hC (pc := 83) (v := Int32.ofInt 0) dX14_readCall_83 (by decide) ?_
            refine z_iload hC (pc := 84) 0 dX14_readCall_84 rfl ?_
            obtain ⟨p64, h⟩ := h
            refine y_callVi hC (pc := 86) (As := [iv 35, iv v26, iv 0, iv (rF s26 0 41)]) (kX14_node_t l G κ s47 35 v26 0 (rF s26 0 41) gg Ws47 (r_lit rfl) hv26 (r_lit rfl) (Ws26.f _ _) p64) dmX14_node zf14 rOb_0 dX14_readCall_86 zw3170 rfl rfl (Nat.le_of_ble_eq_true rfl) (Nat.le_of_ble_eq_true rfl) (by omega) (by omega) (Nat.le_of_ble_eq_true rfl) (kk := fun v86 s86 hv86 Ws86 qs86 => ?_)
            have h := h v86 s86 hv86 Ws86 (rNMp.keep qs86.1 rfl rfl rfl rfl rfl) (TPRp.keep qs86.1 rfl rfl rfl) (WNp.keep qs86.1 rfl rfl rfl rfl rfl) (CCp.keep qs86.1 rfl rfl rfl rfl rfl rfl rfl) (qs86.1.R rfl) (qs86.1.F rfl) (qs86.1.F rfl) (qs86.1.F rfl) (qs86.1.F rfl) (qs86.1.F rfl) (qs86.1.F rfl) (qs86.1.F rfl) (qs86.1.F rfl) (qs86.1.F rfl) (qs86.1.F rfl) (qs86.1.F rfl) (qs86.1.F rfl) (fun i => qs86.1.A (f := 26) (by decide) rfl) (qs86.1.FG g0 rfl) (qs86.1.FG g0 rfl) (qs86.1.FG g0 rfl) (qs86.1.FG g0 rfl) (fun i => qs86.1.AG (f := 33) g0 (by decide) rfl) (fun i => qs86.1.AG (f := 34) g0 (by decide) rfl) (fun i => qs86.1.AG (f := 35) g0 (by decide) rfl) (fz_keep qs86.1 rfl) qs86.2
            exact y_reti hR dX14_readCall_89 rfl hv86 Ws86 (Nat.le_of_ble_eq_true rfl) (Nat.le_of_ble_eq_true rfl) ⟨(rKeep.tr (rKeep.tr (rKeep.tr (rKeep.tr (rKeep.tr rKeep.rf (rKeep.sF0 (f := 29)) rfl rfl rfl rfl rfl) qs22.1 rfl rfl rfl rfl rfl) qs26.1 rfl rfl rfl rfl rfl) qs47.1 rfl rfl rfl rfl rfl) qs86.1 rfl rfl rfl rfl rfl), h⟩
          · have h := hF c
            refine z_aload_n hC (pc := 69) 3 dX14_readCall_69 rfl rfl ?_
            refine z_iconst hC (pc := 70) (v := Int32.ofInt 1) dX14_readCall_70 (by decide) ?_
            refine z_aload_n hC (pc := 71) 3 dX14_readCall_71 rfl rfl ?_
            obtain ⟨p65, h⟩ := h
            refine y_callVi hC (pc := 72) (As := []) (kX14_place l G κ s47  Ws47  p65) dmX14_place zf14 rOb_0 dX14_readCall_72 zw3103 rfl rfl (Nat.le_of_ble_eq_true rfl) (Nat.le_of_ble_eq_true rfl) (by omega) (by omega) (Nat.le_of_ble_eq_true rfl) (kk := fun v72 s72 hv72 Ws72 qs72 => ?_)
            obtain ⟨es72, qs72⟩ := qs72
            have es72 := es72.symm
            subst es72
            have h := h v72 hv72 qs72
            obtain ⟨p66, h⟩ := h
            refine y_callVv hC (pc := 75) (As := [iv 1, iv v72]) (kX14_bad l G κ s47 1 v72 Ws47 (r_lit rfl) hv72 p66) dmX14_bad zf14 rOb_0 dX14_readCall_75 zw3000 rfl rfl (Nat.le_of_ble_eq_true rfl) (Nat.le_of_ble_eq_true rfl) (by omega) (by omega) (Nat.le_of_ble_eq_true rfl) (kk := fun s75 Ws75 qs75 => ?_)
            have h := h s75 Ws75 (rNMp.keep qs75.1 rfl rfl rfl rfl rfl) (TPRp.keep qs75.1 rfl rfl rfl) (WNp.keep qs75.1 rfl rfl rfl rfl rfl) (PNp.keep qs75.1 rfl rfl rfl rfl rfl) (CCp.keep qs75.1 rfl rfl rfl rfl rfl rfl rfl) (qs75.1.R rfl) (qs75.1.F rfl) (qs75.1.F rfl) (qs75.1.F rfl) (qs75.1.F rfl) (qs75.1.F rfl) (qs75.1.F rfl) (qs75.1.F rfl) (qs75.1.F rfl) (qs75.1.F rfl) (qs75.1.F rfl) (qs75.1.F rfl) (fun i => qs75.1.A (f := 26) (by decide) rfl) (qs75.1.FG g0 rfl) (qs75.1.FG g0 rfl) (qs75.1.FG g0 rfl) (qs75.1.FG g0 rfl) (qs75.1.FG g0 rfl) (fun i => qs75.1.AG (f := 33) g0 (by decide) rfl) (fun i => qs75.1.AG (f := 34) g0 (by decide) rfl) (fun i => qs75.1.AG (f := 35) g0 (by decide) rfl) (RG.keep (c0 := 0) qs75.1 rfl rfl rfl rfl rfl rfl rfl rfl rfl rfl rfl rfl rfl rfl rfl rfl rfl rfl) qs75.2
            refine z_aload_n hC (pc := 78) 3 dX14_readCall_78 rfl rfl ?_
            refine z_bipush hC (pc := 79) (v := Int32.ofInt 35) dX14_readCall_79 (by decide) ?_
            refine z_iload hC (pc := 81) 1 dX14_readCall_81 rfl ?_
            refine z_iconst hC (pc := 83) (v := Int32.ofInt 0) dX14_readCall_83 (by decide) ?_
            refine z_iload hC (pc := 84) 0 dX14_readCall_84 rfl ?_
            obtain ⟨p67, h⟩ := h
            refine y_callVi hC (pc := 86) (As := [iv 35, iv v26, iv 0, iv (rF s26 0 41)]) (kX14_node_t l G κ s75 35 v26 0 (rF s26 0 41) gg Ws75 (r_lit rfl) hv26 (r_lit rfl) (Ws26.f _ _) p67) dmX14_node zf14 rOb_0 dX14_readCall_86 zw3170 rfl rfl (Nat.le_of_ble_eq_true rfl) (Nat.le_of_ble_eq_true rfl) (by omega) (by omega) (Nat.le_of_ble_eq_true rfl) (kk := fun v86 s86 hv86 Ws86 qs86 => ?_)
            have h := h v86 s86 hv86 Ws86 (rNMp.keep qs86.1 rfl rfl rfl rfl rfl) (TPRp.keep qs86.1 rfl rfl rfl) (WNp.keep qs86.1 rfl rfl rfl rfl rfl) (CCp.keep qs86.1 rfl rfl rfl rfl rfl rfl rfl) (qs86.1.R rfl) (qs86.1.F rfl) (qs86.1.F rfl) (qs86.1.F rfl) (qs86.1.F rfl) (qs86.1.F rfl) (qs86.1.F rfl) (qs86.1.F rfl) (qs86.1.F rfl) (qs86.1.F rfl) (qs86.1.F rfl) (qs86.1.F rfl) (qs86.1.F rfl) (fun i => qs86.1.A (f := 26) (by decide) rfl) (qs86.1.FG g0 rfl) (qs86.1.FG g0 rfl) (qs86.1.FG g0 rfl) (qs86.1.FG g0 rfl) (fun i => qs86.1.AG (f := 33) g0 (by decide) rfl) (fun i => qs86.1.AG (f := 34) g0 (by decide) rfl) (fun i => qs86.1.AG (f := 35) g0 (by decide) rfl) (fz_keep qs86.1 rfl) qs86.2
            exact y_reti hR dX14_readCall_89 rfl hv86 Ws86 (Nat.le_of_ble_eq_true rfl) (Nat.le_of_ble_eq_true rfl) ⟨(rKeep.tr (rKeep.tr (rKeep.tr (rKeep.tr (rKeep.tr (rKeep.tr rKeep.rf (rKeep.sF0 (f := 29)) rfl rfl rfl rfl rfl) qs22.1 rfl rfl rfl rfl rfl) qs26.1 rfl rfl rfl rfl rfl) qs47.1 rfl rfl rfl rfl rfl) qs75.1 rfl rfl rfl rfl rfl) qs86.1 rfl rfl rfl rfl rfl), h⟩
    · have h := hF c
      refine z_iconst hC (pc := 38) (v := Int32.ofInt 0) dX14_readCall_38 (by decide) ?_
      exact y_reti hR dX14_readCall_39 rfl (r_lit rfl) Ws26 (Nat.le_of_ble_eq_true rfl) (Nat.le_of_ble_eq_true rfl) ⟨(rKeep.tr (rKeep.tr (rKeep.tr rKeep.rf (rKeep.sF0 (f := 29)) rfl rfl rfl rfl rfl) qs22.1 rfl rfl rfl rfl rfl) qs26.1 rfl rfl rfl rfl rfl), h⟩
theorem kX14_readCall (l : Launch) (G : zG) (κ : Nat → Nat) (n : Nat) (ih : Q_rd l G κ n) (σ : rS) (x1 : Int) (x2 : Int) (gg : Nat) (g : Nat → Int → Int) (K : Nat) (hwf : rWF σ) (hx1 : rng x1) (hx2 : rng x2) (hp : pre_X14_readCall σ x1 x2 gg g K) (hr : rk_X14_readCall σ x1 x2 gg g K ≤ n + 1) : rMi l G κ yX14_readCall cX14_readCall 7 .int (n + 1 + 100) ((n + 1) * 40 + 3600) [.ref (κ 0), iv x1, iv x2] σ (fun x s => rKeep 0x6c0a3001c00 0x4100001280 0x13c00000000 0x3ee0000d7f 0 σ s ∧ post_X14_readCall σ x1 x2 gg g K x s) := wX14_readCall l G κ n ih σ x1 x2 gg g K hwf hx1 hx2 (post_X14_readCall σ x1 x2 gg g K) (vX14_readCall n σ x1 x2 gg g K hwf hx1 hx2 hp hr) 
theorem wX14_readApplied (l : Launch) (G : zG) (κ : Nat → Nat) (n : Nat) (ih : Q_rd l G κ n) (σ : rS) (gg : Nat) (g : Nat → Int → Int) (hwf : rWF σ) (Q : Int → rS → Prop) (h : VC_X14_readApplied n σ gg g Q) : rMi l G κ yX14_readApplied cX14_readApplied 4 .int (n + 1 + 100) ((n + 1) * 40 + 3600) [.ref (κ 0)] σ (fun x s => rKeep 0x6c0a3001c00 0x4100001280 0x13c00000000 0x3ee0000d7f 0 σ s ∧ Q x s) := by
  refine zMi.intro (by decide +kernel) (Nat.le_of_ble_eq_true rfl) (fun X hC hR => ?_)
  obtain ⟨g0, h⟩ := h
  refine z_aload_n hC (pc := 0) 0 dX14_readApplied_0 rfl rfl ?_
  obtain ⟨p10, h⟩ := h
  refine y_callVv hC (pc := 1) (As := []) (kX14_blanks l G κ σ  hwf  p10) dmX14_blanks zf14 rOb_0 dX14_readApplied_1 zw3119 rfl rfl (Nat.le_of_ble_eq_true rfl) (Nat.le_of_ble_eq_true rfl) (by omega) (by omega) (Nat.le_of_ble_eq_true rfl) (kk := fun s1 Ws1 qs1 => ?_)
  have h := h s1 Ws1 (rNMp.keep qs1.1 rfl rfl rfl rfl rfl) (TPRp.keep qs1.1 rfl rfl rfl) (WNp.keep qs1.1 rfl rfl rfl rfl rfl) (PNp.keep qs1.1 rfl rfl rfl rfl rfl) (CCp.keep qs1.1 rfl rfl rfl rfl rfl rfl rfl) (qs1.1.R rfl) (qs1.1.F rfl) (qs1.1.F rfl) (qs1.1.F rfl) (qs1.1.F rfl) (qs1.1.F rfl) (qs1.1.F rfl) (qs1.1.F rfl) (qs1.1.F rfl) (qs1.1.F rfl) (qs1.1.F rfl) (fun i => qs1.1.A (f := 26) (by decide) rfl) (fun i => qs1.1.A (f := 34) (by decide) rfl) (fun i => qs1.1.A (f := 35) (by decide) rfl) (fun i => qs1.1.A (f := 40) (by decide) rfl) (qs1.1.FG g0 rfl) (qs1.1.FG g0 rfl) (qs1.1.FG g0 rfl) (qs1.1.FG g0 rfl) (qs1.1.FG g0 rfl) (fun i => qs1.1.AG (f := 33) g0 (by decide) rfl) (fun i => qs1.1.AG (f := 34) g0 (by decide) rfl) (fun i => qs1.1.AG (f := 35) g0 (by decide) rfl) (fz_keep qs1.1 rfl) (RG.keep (c0 := 0) qs1.1 rfl rfl rfl rfl rfl rfl rfl rfl rfl rfl rfl rfl rfl rfl rfl rfl rfl rfl) qs1.2
  refine z_aload_n hC (pc := 4) 0 dX14_readApplied_4 rfl rfl ?_
  refine y_get hC (pc := 5) zf14 rOb_0 10 (v := iv (rF s1 0 10)) dX14_readApplied_5 zw2478 (rv_i (Or.inl rfl) rfl) (kk := ?_)
  have h := h (Ws1.f _ _)
  obtain ⟨hT, hF⟩ := h
  refine y_if_eq hC (pc := 8) 13 (Ws1.f _ _) dX14_readApplied_8 (by decide) (fun c => ?_) (fun c => ?_)
  · have h := hT c
    refine z_aload_n hC (pc := 13) 0 dX14_readApplied_13 rfl rfl ?_
    obtain ⟨p11, h⟩ := h
    refine y_callVi hC (pc := 14) (As := []) (kX14_place l G κ s1  Ws1  p11) dmX14_place zf14 rOb_0 dX14_readApplied_14 zw3103 rfl rfl (Nat.le_of_ble_eq_true rfl) (Nat.le_of_ble_eq_true rfl) (by omega) (by omega) (Nat.le_of_ble_eq_true rfl) (kk := fun v14 s14 hv14 Ws14 qs14 => ?_)
    obtain ⟨es14, qs14⟩ := qs14
    have es14 := es14.symm
    subst es14
    have h := h v14 hv14 qs14
    refine z_istore_n hC (pc := 17) (lv' := [(1, iv v14), (0, .ref (κ 0))]) dX14_readApplied_17 rfl (by decide) rfl ?_
    refine z_aload_n hC (pc := 18) 1 dX14_readApplied_18 rfl rfl ?_
    obtain ⟨p12, h⟩ := h
    refine y_callVi hC (pc := 19) (As := []) (kX14_here l G κ s1  Ws1  p12) dmX14_here zf14 rOb_0 dX14_readApplied_19 zw3099 rfl rfl (Nat.le_of_ble_eq_true rfl) (Nat.le_of_ble_eq_true rfl) (by omega) (by omega) (Nat.le_of_ble_eq_true rfl) (kk := fun v19 s19 hv19 Ws19 qs19 => ?_)
    obtain ⟨es19, qs19⟩ := qs19
    have es19 := es19.symm
    subst es19
    have h := h v19 hv19 qs19
    refine z_bipush hC (pc := 22) (v := Int32.ofInt 123) dX14_readApplied_22 (by decide) ?_
    obtain ⟨hT, hF⟩ := h
    refine y_icmp_ne hC (pc := 24) 69 hv19 (r_lit rfl) dX14_readApplied_24 (by decide) (fun c => ?_) (fun c => ?_)
    · have h := hT c
      refine z_aload_n hC (pc := 69) 1 dX14_readApplied_69 rfl rfl ?_
      obtain ⟨p13, h⟩ := h
      refine y_callVi hC (pc := 70) (As := []) (kX14_here l G κ s1  Ws1  p13) dmX14_here zf14 rOb_0 dX14_readApplied_70 zw3099 rfl rfl (Nat.le_of_ble_eq_true rfl) (Nat.le_of_ble_eq_true rfl) (by omega) (by omega) (Nat.le_of_ble_eq_true rfl) (kk := fun v70 s70 hv70 Ws70 qs70 => ?_)
      obtain ⟨es70, qs70⟩ := qs70
      have es70 := es70.symm
      subst es70
      have h := h v70 hv70 qs70
      refine z_bipush hC (pc := 73) (v := Int32.ofInt 40) dX14_readApplied_73 (by decide) ?_
      obtain ⟨hT, hF⟩ := h
      refine y_icmp_ne hC (pc := 75) 122 hv70 (r_lit rfl) dX14_readApplied_75 (by decide) (fun c => ?_) (fun c => ?_)
      · have h := hT c
        refine z_aload_n hC (pc := 122) 1 dX14_readApplied_122 rfl rfl ?_
        refine z_bipush hC (pc := 123) (v := Int32.ofInt 45) dX14_readApplied_123 (by decide) ?_
        refine z_aload_n hC (pc := 125) 1 dX14_readApplied_125 rfl rfl ?_
        refine z_ldcSw hC (pc := 126) dX14_readApplied_126 zS_50 ?_
        obtain ⟨p14, h⟩ := h
        refine y_callVi hC (pc := 129) (As := [.ref (G.2.2 101)]) (kX14_isWord_t l G κ s1 (G.2.2 101) 5 Ws1 (rSt_50 G) p14) dmX14_isWord zf14 rOb_0 dX14_readApplied_129 zw3128 rfl rfl (Nat.le_of_ble_eq_true rfl) (Nat.le_of_ble_eq_true rfl) (by omega) (by omega) (Nat.le_of_ble_eq_true rfl) (kk := fun v129 s129 hv129 Ws129 qs129 => ?_)
        obtain ⟨es129, qs129⟩ := qs129
        have es129 := es129.symm
        subst es129
        have h := h v129 hv129 qs129
        obtain ⟨g15, h⟩ := h
        obtain ⟨K16, h⟩ := h
        obtain ⟨p17, h⟩ := h
        obtain ⟨p18, h⟩ := h
        refine y_callVi hC (pc := 132) (As := [iv 45, iv v129]) (qX14_readCall ih s1 45 v129 gg g15 K16 Ws1 (r_lit rfl) hv129 p17 p18) dmX14_readCall zf14 rOb_0 dX14_readApplied_132 zw3266 rfl rfl (Nat.le_of_ble_eq_true rfl) (Nat.le_of_ble_eq_true rfl) (by omega) (by omega) (Nat.le_of_ble_eq_true rfl) (kk := fun v132 s132 hv132 Ws132 qs132 => ?_)
        have h := h v132 s132 hv132 Ws132 (TPRp.keep qs132.1 rfl rfl rfl) (CCp.keep qs132.1 rfl rfl rfl rfl rfl rfl rfl) (qs132.1.R rfl) (qs132.1.F rfl) (qs132.1.F rfl) (qs132.1.F rfl) (qs132.1.F rfl) (qs132.1.F rfl) (qs132.1.F rfl) (fun i => qs132.1.A (f := 26) (by decide) rfl) qs132.2
        exact y_reti hR dX14_readApplied_135 rfl hv132 Ws132 (Nat.le_of_ble_eq_true rfl) (Nat.le_of_ble_eq_true rfl) ⟨(rKeep.tr (rKeep.tr rKeep.rf qs1.1 rfl rfl rfl rfl rfl) qs132.1 rfl rfl rfl rfl rfl), h⟩
      · have h := hF c
        refine z_aload_n hC (pc := 78) 1 dX14_readApplied_78 rfl rfl ?_
        refine z_dup hC (pc := 79) dX14_readApplied_79 rfl ?_
        refine y_get hC (pc := 80) zf14 rOb_0 29 (v := iv (rF s1 0 29)) dX14_readApplied_80 zw2496 (rv_i (Or.inl rfl) rfl) (kk := ?_)
        have h := h (Ws1.f _ _)
        refine z_iconst hC (pc := 83) (v := Int32.ofInt 1) dX14_readApplied_83 (by decide) ?_
        refine y_iadd hC (pc := 84) (v := ((rF s1 0 29) + 1)) dX14_readApplied_84 rfl ?_
        obtain ⟨r19, h⟩ := h
        refine y_putI hC (pc := 85) zf14 rOb_0 29 (x := ((rF s1 0 29) + 1)) dX14_readApplied_85 zw2496 (Or.inl rfl) rfl rfl (kk := ?_)
        have W20 := Ws1.sF (q := 0) (f := 29) (x := ((rF s1 0 29) + 1)) r19
        refine z_aload_n hC (pc := 88) 1 dX14_readApplied_88 rfl rfl ?_
        obtain ⟨g21, h⟩ := h
        obtain ⟨p22, h⟩ := h
        obtain ⟨p23, h⟩ := h
        refine y_callVi hC (pc := 89) (As := []) (qX14_readArg ih (sF s1 0 29 ((rF s1 0 29) + 1)) gg g21 W20  p22 p23) dmX14_readArg zf14 rOb_0 dX14_readApplied_89 zw3234 rfl rfl (Nat.le_of_ble_eq_true rfl) (Nat.le_of_ble_eq_true rfl) (by omega) (by omega) (Nat.le_of_ble_eq_true rfl) (kk := fun v89 s89 hv89 Ws89 qs89 => ?_)
        have h := h v89 s89 hv89 Ws89 (TPRp.keep qs89.1 rfl rfl rfl) (CCp.keep qs89.1 rfl rfl rfl rfl rfl rfl rfl) (qs89.1.R rfl) (qs89.1.F rfl) (qs89.1.F rfl) (qs89.1.F rfl) (qs89.1.F rfl) (qs89.1.F rfl) (qs89.1.F rfl) (fun i => qs89.1.A (f := 26) (by decide) rfl) qs89.2
        refine z_istore_n hC (pc := 92) (lv' := [(2, iv v89), (1, iv v14), (0, .ref (κ 0))]) dX14_readApplied_92 rfl (by decide) rfl ?_
        refine z_aload_n hC (pc := 93) 2 dX14_readApplied_93 rfl rfl ?_
        refine z_bipush hC (pc := 94) (v := Int32.ofInt 41) dX14_readApplied_94 (by decide) ?_
        obtain ⟨p24, h⟩ := h
        refine y_callVv hC (pc := 96) (As := [iv 41]) (kX14_need l G κ s89 41 Ws89 (r_lit rfl) p24) dmX14_need zf14 rOb_0 dX14_readApplied_96 zw3136 rfl rfl (Nat.le_of_ble_eq_true rfl) (Nat.le_of_ble_eq_true rfl) (by omega) (by omega) (Nat.le_of_ble_eq_true rfl) (kk := fun s96 Ws96 qs96 => ?_)
        have h := h s96 Ws96 (rNMp.keep qs96.1 rfl rfl rfl rfl rfl) (TPRp.keep qs96.1 rfl rfl rfl) (WNp.keep qs96.1 rfl rfl rfl rfl rfl) (PNp.keep qs96.1 rfl rfl rfl rfl rfl) (CCp.keep qs96.1 rfl rfl rfl rfl rfl rfl rfl) (qs96.1.R rfl) (qs96.1.F rfl) (qs96.1.F rfl) (qs96.1.F rfl) (qs96.1.F rfl) (qs96.1.F rfl) (qs96.1.F rfl) (qs96.1.F rfl) (qs96.1.F rfl) (qs96.1.F rfl) (fun i => qs96.1.A (f := 26) (by decide) rfl) (fun i => qs96.1.A (f := 34) (by decide) rfl) (fun i => qs96.1.A (f := 35) (by decide) rfl) (fun i => qs96.1.A (f := 40) (by decide) rfl) (qs96.1.FG g0 rfl) (qs96.1.FG g0 rfl) (qs96.1.FG g0 rfl) (qs96.1.FG g0 rfl) (qs96.1.FG g0 rfl) (fun i => qs96.1.AG (f := 33) g0 (by decide) rfl) (fun i => qs96.1.AG (f := 34) g0 (by decide) rfl) (fun i => qs96.1.AG (f := 35) g0 (by decide) rfl) (RG.keep (c0 := 0) qs96.1 rfl rfl rfl rfl rfl rfl rfl rfl rfl rfl rfl rfl rfl rfl rfl rfl rfl rfl) qs96.2
        refine z_aload_n hC (pc := 99) 2 dX14_readApplied_99 rfl rfl ?_
        refine z_bipush hC (pc := 100) (v := Int32.ofInt 40) dX14_readApplied_100 (by decide) ?_
        obtain ⟨p25, h⟩ := h
        refine y_callVv hC (pc := 102) (As := [iv 40]) (kX14_need l G κ s96 40 Ws96 (r_lit rfl) p25) dmX14_need zf14 rOb_0 dX14_readApplied_102 zw3136 rfl rfl (Nat.le_of_ble_eq_true rfl) (Nat.le_of_ble_eq_true rfl) (by omega) (by omega) (Nat.le_of_ble_eq_true rfl) (kk := fun s102 Ws102 qs102 => ?_)
        have h := h s102 Ws102 (rNMp.keep qs102.1 rfl rfl rfl rfl rfl) (TPRp.keep qs102.1 rfl rfl rfl) (WNp.keep qs102.1 rfl rfl rfl rfl rfl) (PNp.keep qs102.1 rfl rfl rfl rfl rfl) (CCp.keep qs102.1 rfl rfl rfl rfl rfl rfl rfl) (qs102.1.R rfl) (qs102.1.F rfl) (qs102.1.F rfl) (qs102.1.F rfl) (qs102.1.F rfl) (qs102.1.F rfl) (qs102.1.F rfl) (qs102.1.F rfl) (qs102.1.F rfl) (qs102.1.F rfl) (fun i => qs102.1.A (f := 26) (by decide) rfl) (fun i => qs102.1.A (f := 34) (by decide) rfl) (fun i => qs102.1.A (f := 35) (by decide) rfl) (fun i => qs102.1.A (f := 40) (by decide) rfl) (qs102.1.FG g0 rfl) (qs102.1.FG g0 rfl) (qs102.1.FG g0 rfl) (qs102.1.FG g0 rfl) (qs102.1.FG g0 rfl) (fun i => qs102.1.AG (f := 33) g0 (by decide) rfl) (fun i => qs102.1.AG (f := 34) g0 (by decide) rfl) (fun i => qs102.1.AG (f := 35) g0 (by decide) rfl) (RG.keep (c0 := 0) qs102.1 rfl rfl rfl rfl rfl rfl rfl rfl rfl rfl rfl rfl rfl rfl rfl rfl rfl rfl) qs102.2
        refine z_aload_n hC (pc := 105) 2 dX14_readApplied_105 rfl rfl ?_
        refine z_bipush hC (pc := 106) (v := Int32.ofInt 46) dX14_readApplied_106 (by decide) ?_
        refine z_iload_n hC (pc := 108) 0 dX14_readApplied_108 rfl rfl ?_
        refine z_iconst hC (pc := 109) (v := Int32.ofInt 0) dX14_readApplied_109 (by decide) ?_
        refine z_iload_n hC (pc := 110) 1 dX14_readApplied_110 rfl rfl ?_
        obtain ⟨p26, h⟩ := h
        refine y_callVi hC (pc := 111) (As := [iv 46, iv v89, iv 0, iv v14]) (kX14_node_t l G κ s102 46 v89 0 v14 gg Ws102 (r_lit rfl) hv89 (r_lit rfl) hv14 p26) dmX14_node zf14 rOb_0 dX14_readApplied_111 zw3170 rfl rfl (Nat.le_of_ble_eq_true rfl) (Nat.le_of_ble_eq_true rfl) (by omega) (by omega) (Nat.le_of_ble_eq_true rfl) (kk := fun v111 s111 hv111 Ws111 qs111 => ?_)
        have h := h v111 s111 hv111 Ws111 (rNMp.keep qs111.1 rfl rfl rfl rfl rfl) (TPRp.keep qs111.1 rfl rfl rfl) (WNp.keep qs111.1 rfl rfl rfl rfl rfl) (CCp.keep qs111.1 rfl rfl rfl rfl rfl rfl rfl) (qs111.1.R rfl) (qs111.1.F rfl) (qs111.1.F rfl) (qs111.1.F rfl) (qs111.1.F rfl) (qs111.1.F rfl) (qs111.1.F rfl) (qs111.1.F rfl) (qs111.1.F rfl) (qs111.1.F rfl) (qs111.1.F rfl) (qs111.1.F rfl) (fun i => qs111.1.A (f := 26) (by decide) rfl) (fun i => qs111.1.A (f := 34) (by decide) rfl) (fun i => qs111.1.A (f := 35) (by decide) rfl) (fun i => qs111.1.A (f := 40) (by decide) rfl) (qs111.1.FG g0 rfl) (qs111.1.FG g0 rfl) (qs111.1.FG g0 rfl) (qs111.1.FG g0 rfl) (fun i => qs111.1.AG (f := 33) g0 (by decide) rfl) (fun i => qs111.1.AG (f := 34) g0 (by decide) rfl) (fun i => qs111.1.AG (f := 35) g0 (by decide) rfl) (fz_keep qs111.1 rfl) qs111.2
        refine z_istore_n hC (pc := 114) (lv' := [(3, iv v111), (2, iv v89), (1, iv v14), (0, .ref (κ 0))]) dX14_readApplied_114 rfl (by decide) rfl ?_
        refine z_aload_n hC (pc := 115) 3 dX14_readApplied_115 rfl rfl ?_
        refine z_iload_n hC (pc := 116) 0 dX14_readApplied_116 rfl rfl ?_
        obtain ⟨g27, h⟩ := h
        obtain ⟨K28, h⟩ := h
        obtain ⟨p29, h⟩ := h
        obtain ⟨p30, h⟩ := h
        refine y_callVv hC (pc := 117) (As := [iv v111]) (qX14_readArgs ih s111 v111 gg g27 K28 Ws111 hv111 p29 p30) dmX14_readArgs zf14 rOb_0 dX14_readApplied_117 zw3246 rfl rfl (Nat.le_of_ble_eq_true rfl) (Nat.le_of_ble_eq_true rfl) (by omega) (by omega) (Nat.le_of_ble_eq_true rfl) (kk := fun s117 Ws117 qs117 => ?_)
        have h := h s117 Ws117 (TPRp.keep qs117.1 rfl rfl rfl) (CCp.keep qs117.1 rfl rfl rfl rfl rfl rfl rfl) (qs117.1.R rfl) (qs117.1.F rfl) (qs117.1.F rfl) (qs117.1.F rfl) (qs117.1.F rfl) (qs117.1.F rfl) (qs117.1.F rfl) (fun i => qs117.1.A (f := 26) (by decide) rfl) qs117.2
        refine z_iload_n hC (pc := 120) 0 dX14_readApplied_120 rfl rfl ?_
        exact y_reti hR dX14_readApplied_121 rfl hv111 Ws117 (Nat.le_of_ble_eq_true rfl) (Nat.le_of_ble_eq_true rfl) ⟨(rKeep.tr (rKeep.tr (rKeep.tr (rKeep.tr (rKeep.tr (rKeep.tr (rKeep.tr rKeep.rf qs1.1 rfl rfl rfl rfl rfl) (rKeep.sF0 (f := 29)) rfl rfl rfl rfl rfl) qs89.1 rfl rfl rfl rfl rfl) qs96.1 rfl rfl rfl rfl rfl) qs102.1 rfl rfl rfl rfl rfl) qs111.1 rfl rfl rfl rfl rfl) qs117.1 rfl rfl rfl rfl rfl), h⟩
    · have h := hF c
      refine z_aload_n hC (pc := 27) 1 dX14_readApplied_27 rfl rfl ?_
      refine y_get hC (pc := 28) zf14 rOb_0 7 (v := .ref (κ (rR σ 7))) dX14_readApplied_28 zw2475 (rv_g rfl ((qs1.1.R rfl).trans rfl) g0) (kk := ?_)
      refine y_getN hC (pc := 31) zf13 (rOb_k g0) 38 (v := iv (rF s1 (rR σ 7) 38)) dX14_readApplied_31 zw2384 (rv_i (Or.inl rfl) rfl) (kk := ?_)
      have h := h (Ws1.f _ _)
      refine z_istore_n hC (pc := 34) (lv' := [(2, iv (rF s1 (rR σ 7) 38)), (1, iv v14), (0, .ref (κ 0))]) dX14_readApplied_34 rfl (by decide) rfl ?_
      refine z_aload_n hC (pc := 35) 2 dX14_readApplied_35 rfl rfl ?_
      refine z_bipush hC (pc := 36) (v := Int32.ofInt 33) dX14_readApplied_36 (by decide) ?_
      refine z_iconst hC (pc := 38) (v := Int32.ofInt 0) dX14_readApplied_38 (by decide) ?_
      refine z_iconst hC (pc := 39) (v := Int32.ofInt 1) dX14_readApplied_39 (by decide) ?_
      refine z_iload_n hC (pc := 40) 1 dX14_readApplied_40 rfl rfl ?_
      obtain ⟨p31, h⟩ := h
      refine y_callVv hC (pc := 41) (As := [iv 33, iv 0, iv 1, iv v14]) (kX14_check_t l G κ s1 33 0 1 v14 gg Ws1 (r_lit rfl) (r_lit rfl) (r_lit rfl) hv14 p31) dmX14_check zf14 rOb_0 dX14_readApplied_41 zw3075 rfl rfl (Nat.le_of_ble_eq_true rfl) (Nat.le_of_ble_eq_true rfl) (by omega) (by omega) (Nat.le_of_ble_eq_true rfl) (kk := fun s41 Ws41 qs41 => ?_)
      have h := h s41 Ws41 (rNMp.keep qs41.1 rfl rfl rfl rfl rfl) (TPRp.keep qs41.1 rfl rfl rfl) (WNp.keep qs41.1 rfl rfl rfl rfl rfl) (PNp.keep qs41.1 rfl rfl rfl rfl rfl) (CCp.keep qs41.1 rfl rfl rfl rfl rfl rfl rfl) (qs41.1.R rfl) (qs41.1.F rfl) (qs41.1.F rfl) (qs41.1.F rfl) (qs41.1.F rfl) (qs41.1.F rfl) (qs41.1.F rfl) (qs41.1.F rfl) (qs41.1.F rfl) (qs41.1.F rfl) (qs41.1.F rfl) (qs41.1.F rfl) (fun i => qs41.1.A (f := 26) (by decide) rfl) (fun i => qs41.1.A (f := 34) (by decide) rfl) (fun i => qs41.1.A (f := 35) (by decide) rfl) (fun i => qs41.1.A (f := 40) (by decide) rfl) (qs41.1.FG g0 rfl) (qs41.1.FG g0 rfl) (qs41.1.FG g0 rfl) (qs41.1.FG g0 rfl) (fz_keep qs41.1 rfl) qs41.2
      refine z_aload_n hC (pc := 44) 2 dX14_readApplied_44 rfl rfl ?_
      obtain ⟨g32, h⟩ := h
      obtain ⟨p33, h⟩ := h
      obtain ⟨p34, h⟩ := h
      refine y_callVi hC (pc := 45) (As := []) (qX14_readSub ih s41 gg g32 Ws41  p33 p34) dmX14_readSub zf14 rOb_0 dX14_readApplied_45 zw3222 rfl rfl (Nat.le_of_ble_eq_true rfl) (Nat.le_of_ble_eq_true rfl) (by omega) (by omega) (Nat.le_of_ble_eq_true rfl) (kk := fun v45 s45 hv45 Ws45 qs45 => ?_)
      have h := h v45 s45 hv45 Ws45 (TPRp.keep qs45.1 rfl rfl rfl) (CCp.keep qs45.1 rfl rfl rfl rfl rfl rfl rfl) (qs45.1.R rfl) (qs45.1.F rfl) (qs45.1.F rfl) (qs45.1.F rfl) (qs45.1.F rfl) (qs45.1.F rfl) (qs45.1.F rfl) (fun i => qs45.1.A (f := 26) (by decide) rfl) qs45.2
      refine z_istore_n hC (pc := 48) (lv' := [(3, iv v45), (2, iv (rF s1 (rR σ 7) 38)), (1, iv v14), (0, .ref (κ 0))]) dX14_readApplied_48 rfl (by decide) rfl ?_
      refine z_aload_n hC (pc := 49) 3 dX14_readApplied_49 rfl rfl ?_
      refine y_get hC (pc := 50) zf14 rOb_0 7 (v := .ref (κ (rR σ 7))) dX14_readApplied_50 zw2475 (rv_g rfl ((qs45.1.R rfl).trans ((qs41.1.R rfl).trans ((qs1.1.R rfl).trans rfl))) g0) (kk := ?_)
      refine y_getN hC (pc := 53) zf13 (rOb_k g0) 34 (v := .ref (κ (1000 * ((rR σ 7) + 1) + 34))) dX14_readApplied_53 zw2376 (rv_c rfl) (kk := ?_)
      refine z_iload_n hC (pc := 56) 1 dX14_readApplied_56 rfl rfl ?_
      refine z_iload_n hC (pc := 57) 0 dX14_readApplied_57 rfl rfl ?_
      obtain ⟨b35, h⟩ := h
      refine y_iast hC (pc := 58) (rAr_k g0 rfl rfl) dX14_readApplied_58 b35 (v := v45) (kk := ?_)
      have W36 := Ws45.sA (p := (1000 * ((rR σ 7) + 1) + 34)) (i := (rF s1 (rR σ 7) 38)) (x := v45) hv45
      refine z_aload_n hC (pc := 59) 3 dX14_readApplied_59 rfl rfl ?_
      refine z_bipush hC (pc := 60) (v := Int32.ofInt 47) dX14_readApplied_60 (by decide) ?_
      refine z_iload_n hC (pc := 62) 0 dX14_readApplied_62 rfl rfl ?_
      refine z_iconst hC (pc := 63) (v := Int32.ofInt 0) dX14_readApplied_63 (by decide) ?_
      refine z_iload_n hC (pc := 64) 2 dX14_readApplied_64 rfl rfl ?_
      obtain ⟨p37, h⟩ := h
      refine y_callVi hC (pc := 65) (As := [iv 47, iv v45, iv 0, iv v14]) (kX14_node_t l G κ (sA s45 (1000 * ((rR σ 7) + 1) + 34) (rF s1 (rR σ 7) 38) v45) 47 v45 0 v14 gg W36 (r_lit rfl) hv45 (r_lit rfl) hv14 p37) dmX14_node zf14 rOb_0 dX14_readApplied_65 zw3170 rfl rfl (Nat.le_of_ble_eq_true rfl) (Nat.le_of_ble_eq_true rfl) (by omega) (by omega) (Nat.le_of_ble_eq_true rfl) (kk := fun v65 s65 hv65 Ws65 qs65 => ?_)
      have h := h v65 s65 hv65 Ws65 (rNMp.keep qs65.1 rfl rfl rfl rfl rfl) (TPRp.keep qs65.1 rfl rfl rfl) (WNp.keep qs65.1 rfl rfl rfl rfl rfl) (CCp.keep qs65.1 rfl rfl rfl rfl rfl rfl rfl) (qs65.1.R rfl) (qs65.1.F rfl) (qs65.1.F rfl) (qs65.1.F rfl) (qs65.1.F rfl) (qs65.1.F rfl) (qs65.1.F rfl) (qs65.1.F rfl) (qs65.1.F rfl) (qs65.1.F rfl) (qs65.1.F rfl) (qs65.1.F rfl) (fun i => qs65.1.A (f := 26) (by decide) rfl) (fun i => qs65.1.A (f := 34) (by decide) rfl) (fun i => qs65.1.A (f := 35) (by decide) rfl) (fun i => qs65.1.A (f := 40) (by decide) rfl) (qs65.1.FG g0 rfl) (qs65.1.FG g0 rfl) (qs65.1.FG g0 rfl) (qs65.1.FG g0 rfl) (fun i => qs65.1.AG (f := 33) g0 (by decide) rfl) (fun i => qs65.1.AG (f := 34) g0 (by decide) rfl) (fun i => qs65.1.AG (f := 35) g0 (by decide) rfl) (fz_keep qs65.1 rfl) qs65.2
      exact y_reti hR dX14_readApplied_68 rfl hv65 Ws65 (Nat.le_of_ble_eq_true rfl) (Nat.le_of_ble_eq_true rfl) ⟨(rKeep.tr (rKeep.tr (rKeep.tr (rKeep.tr (rKeep.tr rKeep.rf qs1.1 rfl rfl rfl rfl rfl) qs41.1 rfl rfl rfl rfl rfl) qs45.1 rfl rfl rfl rfl rfl) (rKeep.sAk (f := 34) g0 (by decide)) rfl rfl rfl rfl rfl) qs65.1 rfl rfl rfl rfl rfl), h⟩
  · have h := hF c
    refine z_iconst hC (pc := 11) (v := Int32.ofInt 0) dX14_readApplied_11 (by decide) ?_
    exact y_reti hR dX14_readApplied_12 rfl (r_lit rfl) Ws1 (Nat.le_of_ble_eq_true rfl) (Nat.le_of_ble_eq_true rfl) ⟨(rKeep.tr rKeep.rf qs1.1 rfl rfl rfl rfl rfl), h⟩
theorem kX14_readApplied (l : Launch) (G : zG) (κ : Nat → Nat) (n : Nat) (ih : Q_rd l G κ n) (σ : rS) (gg : Nat) (g : Nat → Int → Int) (hwf : rWF σ) (hp : pre_X14_readApplied σ gg g) (hr : rk_X14_readApplied σ gg g ≤ n + 1) : rMi l G κ yX14_readApplied cX14_readApplied 4 .int (n + 1 + 100) ((n + 1) * 40 + 3600) [.ref (κ 0)] σ (fun x s => rKeep 0x6c0a3001c00 0x4100001280 0x13c00000000 0x3ee0000d7f 0 σ s ∧ post_X14_readApplied σ gg g x s) := wX14_readApplied l G κ n ih σ gg g hwf (post_X14_readApplied σ gg g) (vX14_readApplied n σ gg g hwf hp hr) 
theorem wX14_readPrimary (l : Launch) (G : zG) (κ : Nat → Nat) (n : Nat) (ih : Q_rd l G κ n) (σ : rS) (gg : Nat) (g : Nat → Int → Int) (hwf : rWF σ) (Q : Int → rS → Prop) (h : VC_X14_readPrimary n σ gg g Q) : rMi l G κ yX14_readPrimary cX14_readPrimary 5 .int (n + 1 + 100) ((n + 1) * 40 + 3600) [.ref (κ 0)] σ (fun x s => rKeep 0x6c0a3001c00 0x4100001280 0x13c00000000 0x3ee0000d7f 0 σ s ∧ Q x s) := by
  refine zMi.intro (by decide +kernel) (Nat.le_of_ble_eq_true rfl) (fun X hC hR => ?_)
  obtain ⟨g0, h⟩ := h
  refine z_aload_n hC (pc := 0) 0 dX14_readPrimary_0 rfl rfl ?_
  obtain ⟨p10, h⟩ := h
  refine y_callVi hC (pc := 1) (As := []) (kX14_place l G κ σ  hwf  p10) dmX14_place zf14 rOb_0 dX14_readPrimary_1 zw3103 rfl rfl (Nat.le_of_ble_eq_true rfl) (Nat.le_of_ble_eq_true rfl) (by omega) (by omega) (Nat.le_of_ble_eq_true rfl) (kk := fun v1 s1 hv1 Ws1 qs1 => ?_)
  obtain ⟨es1, qs1⟩ := qs1
  have es1 := es1.symm
  subst es1
  have h := h v1 hv1 qs1
  refine z_istore_n hC (pc := 4) (lv' := [(1, iv v1), (0, .ref (κ 0))]) dX14_readPrimary_4 rfl (by decide) rfl ?_
  refine z_aload_n hC (pc := 5) 1 dX14_readPrimary_5 rfl rfl ?_
  obtain ⟨p11, h⟩ := h
  refine y_callVi hC (pc := 6) (As := []) (kX14_here l G κ σ  hwf  p11) dmX14_here zf14 rOb_0 dX14_readPrimary_6 zw3099 rfl rfl (Nat.le_of_ble_eq_true rfl) (Nat.le_of_ble_eq_true rfl) (by omega) (by omega) (Nat.le_of_ble_eq_true rfl) (kk := fun v6 s6 hv6 Ws6 qs6 => ?_)
  obtain ⟨es6, qs6⟩ := qs6
  have es6 := es6.symm
  subst es6
  have h := h v6 hv6 qs6
  refine z_istore_n hC (pc := 9) (lv' := [(2, iv v6), (1, iv v1), (0, .ref (κ 0))]) dX14_readPrimary_9 rfl (by decide) rfl ?_
  refine z_iload_n hC (pc := 10) 0 dX14_readPrimary_10 rfl rfl ?_
  refine z_bipush hC (pc := 11) (v := Int32.ofInt 34) dX14_readPrimary_11 (by decide) ?_
  obtain ⟨hT, hF⟩ := h
  refine y_icmp_eq hC (pc := 13) 22 hv6 (r_lit rfl) dX14_readPrimary_13 (by decide) (fun c => ?_) (fun c => ?_)
  · have h := hT c
    refine z_aload_n hC (pc := 22) 2 dX14_readPrimary_22 rfl rfl ?_
    refine z_iload_n hC (pc := 23) 0 dX14_readPrimary_23 rfl rfl ?_
    obtain ⟨g12, h⟩ := h
    obtain ⟨p13, h⟩ := h
    refine y_callVi hC (pc := 24) (As := [iv v6]) (kX14_readString_g l G κ σ v6 gg g12 hwf hv6 p13) dmX14_readString zf14 rOb_0 dX14_readPrimary_24 zw3210 rfl rfl (Nat.le_of_ble_eq_true rfl) (Nat.le_of_ble_eq_true rfl) (by omega) (by omega) (Nat.le_of_ble_eq_true rfl) (kk := fun v24 s24 hv24 Ws24 qs24 => ?_)
    have h := h v24 s24 hv24 Ws24 (TPRp.keep qs24.1 rfl rfl rfl) (WNp.keep qs24.1 rfl rfl rfl rfl rfl) (CCp.keep qs24.1 rfl rfl rfl rfl rfl rfl rfl) (qs24.1.R rfl) (qs24.1.F rfl) (qs24.1.F rfl) (qs24.1.F rfl) (qs24.1.F rfl) (qs24.1.F rfl) (qs24.1.F rfl) (qs24.1.F rfl) (qs24.1.F rfl) (qs24.1.F rfl) (fun i => qs24.1.A (f := 26) (by decide) rfl) (fun i => qs24.1.A (f := 34) (by decide) rfl) (fun i => qs24.1.A (f := 35) (by decide) rfl) (fun i => qs24.1.A (f := 40) (by decide) rfl) (qs24.1.FG g0 rfl) (qs24.1.FG g0 rfl) (qs24.1.FG g0 rfl) (fun i => qs24.1.AG (f := 10) g0 (by decide) rfl) (fun i => qs24.1.AG (f := 11) g0 (by decide) rfl) qs24.2
    exact y_reti hR dX14_readPrimary_27 rfl hv24 Ws24 (Nat.le_of_ble_eq_true rfl) (Nat.le_of_ble_eq_true rfl) ⟨(rKeep.tr rKeep.rf qs24.1 rfl rfl rfl rfl rfl), h⟩
  · have h := hF c
    refine z_iload_n hC (pc := 16) 0 dX14_readPrimary_16 rfl rfl ?_
    refine z_bipush hC (pc := 17) (v := Int32.ofInt 39) dX14_readPrimary_17 (by decide) ?_
    obtain ⟨hT, hF⟩ := h
    refine y_icmp_ne hC (pc := 19) 28 hv6 (r_lit rfl) dX14_readPrimary_19 (by decide) (fun c => ?_) (fun c => ?_)
    · have h := hT c
      refine z_iload_n hC (pc := 28) 0 dX14_readPrimary_28 rfl rfl ?_
      refine z_bipush hC (pc := 29) (v := Int32.ofInt 123) dX14_readPrimary_29 (by decide) ?_
      obtain ⟨hT, hF⟩ := h
      refine y_icmp_ne hC (pc := 31) 39 hv6 (r_lit rfl) dX14_readPrimary_31 (by decide) (fun c => ?_) (fun c => ?_)
      · have h := hT c
        refine z_iload_n hC (pc := 39) 0 dX14_readPrimary_39 rfl rfl ?_
        refine z_bipush hC (pc := 40) (v := Int32.ofInt 91) dX14_readPrimary_40 (by decide) ?_
        obtain ⟨hT, hF⟩ := h
        refine y_icmp_ne hC (pc := 42) 50 hv6 (r_lit rfl) dX14_readPrimary_42 (by decide) (fun c => ?_) (fun c => ?_)
        · have h := hT c
          refine z_iload_n hC (pc := 50) 0 dX14_readPrimary_50 rfl rfl ?_
          refine z_bipush hC (pc := 51) (v := Int32.ofInt 40) dX14_readPrimary_51 (by decide) ?_
          obtain ⟨hT, hF⟩ := h
          refine y_icmp_ne hC (pc := 53) 137 hv6 (r_lit rfl) dX14_readPrimary_53 (by decide) (fun c => ?_) (fun c => ?_)
          · have h := hT c
            refine z_aload_n hC (pc := 137) 2 dX14_readPrimary_137 rfl rfl ?_
            refine z_ldcSw hC (pc := 138) dX14_readPrimary_138 zS_26 ?_
            obtain ⟨p14, h⟩ := h
            refine y_callVi hC (pc := 141) (As := [.ref (G.2.2 53)]) (kX14_isWord_t l G κ σ (G.2.2 53) 4 hwf (rSt_26 G) p14) dmX14_isWord zf14 rOb_0 dX14_readPrimary_141 zw3128 rfl rfl (Nat.le_of_ble_eq_true rfl) (Nat.le_of_ble_eq_true rfl) (by omega) (by omega) (Nat.le_of_ble_eq_true rfl) (kk := fun v141 s141 hv141 Ws141 qs141 => ?_)
            obtain ⟨es141, qs141⟩ := qs141
            have es141 := es141.symm
            subst es141
            have h := h v141 hv141 qs141
            obtain ⟨hT, hF⟩ := h
            refine y_if_ne hC (pc := 144) 157 hv141 dX14_readPrimary_144 (by decide) (fun c => ?_) (fun c => ?_)
            · have h := hT c
              refine z_aload_n hC (pc := 157) 2 dX14_readPrimary_157 rfl rfl ?_
              refine z_aload_n hC (pc := 158) 2 dX14_readPrimary_158 rfl rfl ?_
              refine z_ldcSw hC (pc := 159) dX14_readPrimary_159 zS_26 ?_
              obtain ⟨p15, h⟩ := h
              refine y_callVi hC (pc := 162) (As := [.ref (G.2.2 53)]) (kX14_isWord_t l G κ σ (G.2.2 53) 4 hwf (rSt_26 G) p15) dmX14_isWord zf14 rOb_0 dX14_readPrimary_162 zw3128 rfl rfl (Nat.le_of_ble_eq_true rfl) (Nat.le_of_ble_eq_true rfl) (by omega) (by omega) (Nat.le_of_ble_eq_true rfl) (kk := fun v162 s162 hv162 Ws162 qs162 => ?_)
              obtain ⟨es162, qs162⟩ := qs162
              have es162 := es162.symm
              subst es162
              have h := h v162 hv162 qs162
              obtain ⟨hT, hF⟩ := h
              refine y_if_eq hC (pc := 165) 173 hv162 dX14_readPrimary_165 (by decide) (fun c => ?_) (fun c => ?_)
              · have h := hT c
                refine z_bipush hC (pc := 173) (v := Int32.ofInt 32) dX14_readPrimary_173 (by decide) ?_
                refine z_iconst hC (pc := 175) (v := Int32.ofInt 0) dX14_readPrimary_175 (by decide) ?_
                refine z_iconst hC (pc := 176) (v := Int32.ofInt 0) dX14_readPrimary_176 (by decide) ?_
                refine z_iload_n hC (pc := 177) 1 dX14_readPrimary_177 rfl rfl ?_
                obtain ⟨p16, h⟩ := h
                refine y_callVi hC (pc := 178) (As := [iv 32, iv 0, iv 0, iv v1]) (kX14_node_t l G κ σ 32 0 0 v1 gg hwf (r_lit rfl) (r_lit rfl) (r_lit rfl) hv1 p16) dmX14_node zf14 rOb_0 dX14_readPrimary_178 zw3170 rfl rfl (Nat.le_of_ble_eq_true rfl) (Nat.le_of_ble_eq_true rfl) (by omega) (by omega) (Nat.le_of_ble_eq_true rfl) (kk := fun v178 s178 hv178 Ws178 qs178 => ?_)
                have h := h v178 s178 hv178 Ws178 (rNMp.keep qs178.1 rfl rfl rfl rfl rfl) (TPRp.keep qs178.1 rfl rfl rfl) (WNp.keep qs178.1 rfl rfl rfl rfl rfl) (CCp.keep qs178.1 rfl rfl rfl rfl rfl rfl rfl) (qs178.1.R rfl) (qs178.1.F rfl) (qs178.1.F rfl) (qs178.1.F rfl) (qs178.1.F rfl) (qs178.1.F rfl) (qs178.1.F rfl) (qs178.1.F rfl) (qs178.1.F rfl) (qs178.1.F rfl) (qs178.1.F rfl) (qs178.1.F rfl) (fun i => qs178.1.A (f := 26) (by decide) rfl) (fun i => qs178.1.A (f := 34) (by decide) rfl) (fun i => qs178.1.A (f := 35) (by decide) rfl) (fun i => qs178.1.A (f := 40) (by decide) rfl) (qs178.1.FG g0 rfl) (qs178.1.FG g0 rfl) (qs178.1.FG g0 rfl) (qs178.1.FG g0 rfl) (fun i => qs178.1.AG (f := 10) g0 (by decide) rfl) (fun i => qs178.1.AG (f := 11) g0 (by decide) rfl) (fz_keep qs178.1 rfl) qs178.2
                refine z_istore_n hC (pc := 181) (lv' := [(3, iv v178), (2, iv v6), (1, iv v1), (0, .ref (κ 0))]) dX14_readPrimary_181 rfl (by decide) rfl ?_
                refine z_aload_n hC (pc := 182) 3 dX14_readPrimary_182 rfl rfl ?_
                refine z_aload_n hC (pc := 183) 3 dX14_readPrimary_183 rfl rfl ?_
                refine y_get hC (pc := 184) zf14 rOb_0 26 (v := .ref (κ 1026)) dX14_readPrimary_184 zw2493 (rv_c rfl) (kk := ?_)
                refine z_aload_n hC (pc := 187) 3 dX14_readPrimary_187 rfl rfl ?_
                refine y_get hC (pc := 188) zf14 rOb_0 28 (v := iv (rF s178 0 28)) dX14_readPrimary_188 zw2495 (rv_i (Or.inl rfl) rfl) (kk := ?_)
                have h := h (Ws178.f _ _)
                refine z_aload_n hC (pc := 191) 3 dX14_readPrimary_191 rfl rfl ?_
                refine y_get hC (pc := 192) zf14 rOb_0 29 (v := iv (rF σ 0 29)) dX14_readPrimary_192 zw2496 (rv_i (Or.inl rfl) ((qs178.1.F rfl).trans rfl)) (kk := ?_)
                have h := h (hwf.f _ _)
                obtain ⟨p17, h⟩ := h
                refine y_callSi hC (pc := 195) (As := [.ref (κ 1026), iv (rF s178 0 28), iv (rF σ 0 29)]) (kX14_wordEnd_t l G κ s178 1026 4001 (rF s178 0 28) (rF σ 0 29) Ws178 (rAr_m rfl) (Ws178.f _ _) (hwf.f _ _) p17) dmX14_wordEnd dX14_readPrimary_195 zw3009 rfl rfl (Nat.le_of_ble_eq_true rfl) (Nat.le_of_ble_eq_true rfl) (by omega) (by omega) (Nat.le_of_ble_eq_true rfl) (kk := fun v195 s195 hv195 Ws195 qs195 => ?_)
                obtain ⟨es195, qs195⟩ := qs195
                have es195 := es195.symm
                subst es195
                have h := h v195 hv195 qs195
                refine y_putI hC (pc := 198) zf14 rOb_0 29 (x := v195) dX14_readPrimary_198 zw2496 (Or.inl rfl) rfl rfl (kk := ?_)
                have W18 := Ws178.sF (q := 0) (f := 29) (x := v195) hv195
                refine z_iload_n hC (pc := 201) 0 dX14_readPrimary_201 rfl rfl ?_
                exact y_reti hR dX14_readPrimary_202 rfl hv178 W18 (Nat.le_of_ble_eq_true rfl) (Nat.le_of_ble_eq_true rfl) ⟨(rKeep.tr (rKeep.tr rKeep.rf qs178.1 rfl rfl rfl rfl rfl) (rKeep.sF0 (f := 29)) rfl rfl rfl rfl rfl), h⟩
              · have h := hF c
                refine z_bipush hC (pc := 168) (v := Int32.ofInt 31) dX14_readPrimary_168 (by decide) ?_
                refine z_goto hC (pc := 170) 175 dX14_readPrimary_170 (by decide) ?_
                refine z_iconst hC (pc := 175) (v := Int32.ofInt 0) dX14_readPrimary_175 (by decide) ?_
                refine z_iconst hC (pc := 176) (v := Int32.ofInt 0) dX14_readPrimary_176 (by decide) ?_
                refine z_iload_n hC (pc := 177) 1 dX14_readPrimary_177 rfl rfl ?_
                obtain ⟨p19, h⟩ := h
                refine y_callVi hC (pc := 178) (As := [iv 31, iv 0, iv 0, iv v1]) (kX14_node_t l G κ σ 31 0 0 v1 gg hwf (r_lit rfl) (r_lit rfl) (r_lit rfl) hv1 p19) dmX14_node zf14 rOb_0 dX14_readPrimary_178 zw3170 rfl rfl (Nat.le_of_ble_eq_true rfl) (Nat.le_of_ble_eq_true rfl) (by omega) (by omega) (Nat.le_of_ble_eq_true rfl) (kk := fun v178 s178 hv178 Ws178 qs178 => ?_)
                have h := h v178 s178 hv178 Ws178 (rNMp.keep qs178.1 rfl rfl rfl rfl rfl) (TPRp.keep qs178.1 rfl rfl rfl) (WNp.keep qs178.1 rfl rfl rfl rfl rfl) (CCp.keep qs178.1 rfl rfl rfl rfl rfl rfl rfl) (qs178.1.R rfl) (qs178.1.F rfl) (qs178.1.F rfl) (qs178.1.F rfl) (qs178.1.F rfl) (qs178.1.F rfl) (qs178.1.F rfl) (qs178.1.F rfl) (qs178.1.F rfl) (qs178.1.F rfl) (qs178.1.F rfl) (qs178.1.F rfl) (fun i => qs178.1.A (f := 26) (by decide) rfl) (fun i => qs178.1.A (f := 34) (by decide) rfl) (fun i => qs178.1.A (f := 35) (by decide) rfl) (fun i => qs178.1.A (f := 40) (by decide) rfl) (qs178.1.FG g0 rfl) (qs178.1.FG g0 rfl) (qs178.1.FG g0 rfl) (qs178.1.FG g0 rfl) (fun i => qs178.1.AG (f := 10) g0 (by decide) rfl) (fun i => qs178.1.AG (f := 11) g0 (by decide) rfl) (fz_keep qs178.1 rfl) qs178.2
                refine z_istore_n hC (pc := 181) (lv' := [(3, iv v178), (2, iv v6), (1, iv v1), (0, .ref (κ 0))]) dX14_readPrimary_181 rfl (by decide) rfl ?_
                refine z_aload_n hC (pc := 182) 3 dX14_readPrimary_182 rfl rfl ?_
                refine z_aload_n hC (pc := 183) 3 dX14_readPrimary_183 rfl rfl ?_
                refine y_get hC (pc := 184) zf14 rOb_0 26 (v := .ref (κ 1026)) dX14_readPrimary_184 zw2493 (rv_c rfl) (kk := ?_)
                refine z_aload_n hC (pc := 187) 3 dX14_readPrimary_187 rfl rfl ?_
                refine y_get hC (pc := 188) zf14 rOb_0 28 (v := iv (rF s178 0 28)) dX14_readPrimary_188 zw2495 (rv_i (Or.inl rfl) rfl) (kk := ?_)
                have h := h (Ws178.f _ _)
                refine z_aload_n hC (pc := 191) 3 dX14_readPrimary_191 rfl rfl ?_
                refine y_get hC (pc := 192) zf14 rOb_0 29 (v := iv (rF σ 0 29)) dX14_readPrimary_192 zw2496 (rv_i (Or.inl rfl) ((qs178.1.F rfl).trans rfl)) (kk := ?_)
                have h := h (hwf.f _ _)
                obtain ⟨p20, h⟩ := h
                refine y_callSi hC (pc := 195) (As := [.ref (κ 1026), iv (rF s178 0 28), iv (rF σ 0 29)]) (kX14_wordEnd_t l G κ s178 1026 4001 (rF s178 0 28) (rF σ 0 29) Ws178 (rAr_m rfl) (Ws178.f _ _) (hwf.f _ _) p20) dmX14_wordEnd dX14_readPrimary_195 zw3009 rfl rfl (Nat.le_of_ble_eq_true rfl) (Nat.le_of_ble_eq_true rfl) (by omega) (by omega) (Nat.le_of_ble_eq_true rfl) (kk := fun v195 s195 hv195 Ws195 qs195 => ?_)
                obtain ⟨es195, qs195⟩ := qs195
                have es195 := es195.symm
                subst es195
                have h := h v195 hv195 qs195
                refine y_putI hC (pc := 198) zf14 rOb_0 29 (x := v195) dX14_readPrimary_198 zw2496 (Or.inl rfl) rfl rfl (kk := ?_)
                have W21 := Ws178.sF (q := 0) (f := 29) (x := v195) hv195
                refine z_iload_n hC (pc := 201) 0 dX14_readPrimary_201 rfl rfl ?_
                exact y_reti hR dX14_readPrimary_202 rfl hv178 W21 (Nat.le_of_ble_eq_true rfl) (Nat.le_of_ble_eq_true rfl) ⟨(rKeep.tr (rKeep.tr rKeep.rf qs178.1 rfl rfl rfl rfl rfl) (rKeep.sF0 (f := 29)) rfl rfl rfl rfl rfl), h⟩
            · have h := hF c
              refine z_aload_n hC (pc := 147) 2 dX14_readPrimary_147 rfl rfl ?_
              refine z_ldcSw hC (pc := 148) dX14_readPrimary_148 zS_27 ?_
              obtain ⟨p22, h⟩ := h
              refine y_callVi hC (pc := 151) (As := [.ref (G.2.2 55)]) (kX14_isWord_t l G κ σ (G.2.2 55) 5 hwf (rSt_27 G) p22) dmX14_isWord zf14 rOb_0 dX14_readPrimary_151 zw3128 rfl rfl (Nat.le_of_ble_eq_true rfl) (Nat.le_of_ble_eq_true rfl) (by omega) (by omega) (Nat.le_of_ble_eq_true rfl) (kk := fun v151 s151 hv151 Ws151 qs151 => ?_)
              obtain ⟨es151, qs151⟩ := qs151
              have es151 := es151.symm
              subst es151
              have h := h v151 hv151 qs151
              obtain ⟨hT, hF⟩ := h
              refine y_if_eq hC (pc := 154) 203 hv151 dX14_readPrimary_154 (by decide) (fun c => ?_) (fun c => ?_)
              · have h := hT c
                refine z_aload_n hC (pc := 203) 2 dX14_readPrimary_203 rfl rfl ?_
                obtain ⟨p23, h⟩ := h
                refine y_callVi hC (pc := 204) (As := []) (kX14_function_t l G κ σ  hwf  p23) dmX14_function zf14 rOb_0 dX14_readPrimary_204 zw3145 rfl rfl (Nat.le_of_ble_eq_true rfl) (Nat.le_of_ble_eq_true rfl) (by omega) (by omega) (Nat.le_of_ble_eq_true rfl) (kk := fun v204 s204 hv204 Ws204 qs204 => ?_)
                obtain ⟨es204, qs204⟩ := qs204
                have es204 := es204.symm
                subst es204
                have h := h v204 hv204 qs204
                obtain ⟨hT, hF⟩ := h
                refine y_if_lt hC (pc := 207) 269 hv204 dX14_readPrimary_207 (by decide) (fun c => ?_) (fun c => ?_)
                · have h := hT c
                  refine z_aload_n hC (pc := 269) 2 dX14_readPrimary_269 rfl rfl ?_
                  refine z_ldcSw hC (pc := 270) dX14_readPrimary_270 zS_50 ?_
                  obtain ⟨p24, h⟩ := h
                  refine y_callVi hC (pc := 273) (As := [.ref (G.2.2 101)]) (kX14_isWord_t l G κ σ (G.2.2 101) 5 hwf (rSt_50 G) p24) dmX14_isWord zf14 rOb_0 dX14_readPrimary_273 zw3128 rfl rfl (Nat.le_of_ble_eq_true rfl) (Nat.le_of_ble_eq_true rfl) (by omega) (by omega) (Nat.le_of_ble_eq_true rfl) (kk := fun v273 s273 hv273 Ws273 qs273 => ?_)
                  obtain ⟨es273, qs273⟩ := qs273
                  have es273 := es273.symm
                  subst es273
                  have h := h v273 hv273 qs273
                  obtain ⟨hT, hF⟩ := h
                  refine y_if_eq hC (pc := 276) 289 hv273 dX14_readPrimary_276 (by decide) (fun c => ?_) (fun c => ?_)
                  · have h := hT c
                    refine z_aload_n hC (pc := 289) 2 dX14_readPrimary_289 rfl rfl ?_
                    refine z_bipush hC (pc := 290) (v := Int32.ofInt 36) dX14_readPrimary_290 (by decide) ?_
                    refine z_iconst hC (pc := 292) (v := Int32.ofInt 0) dX14_readPrimary_292 (by decide) ?_
                    obtain ⟨g25, h⟩ := h
                    obtain ⟨K26, h⟩ := h
                    obtain ⟨p27, h⟩ := h
                    obtain ⟨p28, h⟩ := h
                    refine y_callVi hC (pc := 293) (As := [iv 36, iv 0]) (qX14_readCall ih σ 36 0 gg g25 K26 hwf (r_lit rfl) (r_lit rfl) p27 p28) dmX14_readCall zf14 rOb_0 dX14_readPrimary_293 zw3266 rfl rfl (Nat.le_of_ble_eq_true rfl) (Nat.le_of_ble_eq_true rfl) (by omega) (by omega) (Nat.le_of_ble_eq_true rfl) (kk := fun v293 s293 hv293 Ws293 qs293 => ?_)
                    have h := h v293 s293 hv293 Ws293 (TPRp.keep qs293.1 rfl rfl rfl) (CCp.keep qs293.1 rfl rfl rfl rfl rfl rfl rfl) (qs293.1.R rfl) (qs293.1.F rfl) (qs293.1.F rfl) (qs293.1.F rfl) (qs293.1.F rfl) (qs293.1.F rfl) (qs293.1.F rfl) (fun i => qs293.1.A (f := 26) (by decide) rfl) qs293.2
                    exact y_reti hR dX14_readPrimary_296 rfl hv293 Ws293 (Nat.le_of_ble_eq_true rfl) (Nat.le_of_ble_eq_true rfl) ⟨(rKeep.tr rKeep.rf qs293.1 rfl rfl rfl rfl rfl), h⟩
                  · have h := hF c
                    refine z_aload_n hC (pc := 279) 2 dX14_readPrimary_279 rfl rfl ?_
                    refine z_bipush hC (pc := 280) (v := Int32.ofInt 36) dX14_readPrimary_280 (by decide) ?_
                    refine z_iconst hC (pc := 282) (v := Int32.ofInt 1) dX14_readPrimary_282 (by decide) ?_
                    obtain ⟨g29, h⟩ := h
                    obtain ⟨K30, h⟩ := h
                    obtain ⟨p31, h⟩ := h
                    obtain ⟨p32, h⟩ := h
                    refine y_callVi hC (pc := 283) (As := [iv 36, iv 1]) (qX14_readCall ih σ 36 1 gg g29 K30 hwf (r_lit rfl) (r_lit rfl) p31 p32) dmX14_readCall zf14 rOb_0 dX14_readPrimary_283 zw3266 rfl rfl (Nat.le_of_ble_eq_true rfl) (Nat.le_of_ble_eq_true rfl) (by omega) (by omega) (Nat.le_of_ble_eq_true rfl) (kk := fun v283 s283 hv283 Ws283 qs283 => ?_)
                    have h := h v283 s283 hv283 Ws283 (TPRp.keep qs283.1 rfl rfl rfl) (CCp.keep qs283.1 rfl rfl rfl rfl rfl rfl rfl) (qs283.1.R rfl) (qs283.1.F rfl) (qs283.1.F rfl) (qs283.1.F rfl) (qs283.1.F rfl) (qs283.1.F rfl) (qs283.1.F rfl) (fun i => qs283.1.A (f := 26) (by decide) rfl) qs283.2
                    refine z_goto hC (pc := 286) 296 dX14_readPrimary_286 (by decide) ?_
                    exact y_reti hR dX14_readPrimary_296 rfl hv283 Ws283 (Nat.le_of_ble_eq_true rfl) (Nat.le_of_ble_eq_true rfl) ⟨(rKeep.tr rKeep.rf qs283.1 rfl rfl rfl rfl rfl), h⟩
                · have h := hF c
                  refine z_aload_n hC (pc := 210) 2 dX14_readPrimary_210 rfl rfl ?_
                  refine z_bipush hC (pc := 211) (v := Int32.ofInt 38) dX14_readPrimary_211 (by decide) ?_
                  refine z_aload_n hC (pc := 213) 2 dX14_readPrimary_213 rfl rfl ?_
                  obtain ⟨p33, h⟩ := h
                  refine y_callVi hC (pc := 214) (As := []) (kX14_function_t l G κ σ  hwf  p33) dmX14_function zf14 rOb_0 dX14_readPrimary_214 zw3145 rfl rfl (Nat.le_of_ble_eq_true rfl) (Nat.le_of_ble_eq_true rfl) (by omega) (by omega) (Nat.le_of_ble_eq_true rfl) (kk := fun v214 s214 hv214 Ws214 qs214 => ?_)
                  obtain ⟨es214, qs214⟩ := qs214
                  have es214 := es214.symm
                  subst es214
                  have h := h v214 hv214 qs214
                  refine z_iconst hC (pc := 217) (v := Int32.ofInt 0) dX14_readPrimary_217 (by decide) ?_
                  refine z_iload_n hC (pc := 218) 1 dX14_readPrimary_218 rfl rfl ?_
                  obtain ⟨p34, h⟩ := h
                  refine y_callVi hC (pc := 219) (As := [iv 38, iv v214, iv 0, iv v1]) (kX14_node_t l G κ σ 38 v214 0 v1 gg hwf (r_lit rfl) hv214 (r_lit rfl) hv1 p34) dmX14_node zf14 rOb_0 dX14_readPrimary_219 zw3170 rfl rfl (Nat.le_of_ble_eq_true rfl) (Nat.le_of_ble_eq_true rfl) (by omega) (by omega) (Nat.le_of_ble_eq_true rfl) (kk := fun v219 s219 hv219 Ws219 qs219 => ?_)
                  have h := h v219 s219 hv219 Ws219 (rNMp.keep qs219.1 rfl rfl rfl rfl rfl) (TPRp.keep qs219.1 rfl rfl rfl) (WNp.keep qs219.1 rfl rfl rfl rfl rfl) (CCp.keep qs219.1 rfl rfl rfl rfl rfl rfl rfl) (qs219.1.R rfl) (qs219.1.F rfl) (qs219.1.F rfl) (qs219.1.F rfl) (qs219.1.F rfl) (qs219.1.F rfl) (qs219.1.F rfl) (qs219.1.F rfl) (qs219.1.F rfl) (qs219.1.F rfl) (qs219.1.F rfl) (qs219.1.F rfl) (fun i => qs219.1.A (f := 26) (by decide) rfl) (fun i => qs219.1.A (f := 34) (by decide) rfl) (fun i => qs219.1.A (f := 35) (by decide) rfl) (fun i => qs219.1.A (f := 40) (by decide) rfl) (qs219.1.FG g0 rfl) (qs219.1.FG g0 rfl) (qs219.1.FG g0 rfl) (qs219.1.FG g0 rfl) (fun i => qs219.1.AG (f := 10) g0 (by decide) rfl) (fun i => qs219.1.AG (f := 11) g0 (by decide) rfl) (fz_keep qs219.1 rfl) qs219.2
                  refine z_istore_n hC (pc := 222) (lv' := [(3, iv v219), (2, iv v6), (1, iv v1), (0, .ref (κ 0))]) dX14_readPrimary_222 rfl (by decide) rfl ?_
                  refine z_aload_n hC (pc := 223) 3 dX14_readPrimary_223 rfl rfl ?_
                  refine z_aload_n hC (pc := 224) 3 dX14_readPrimary_224 rfl rfl ?_
                  refine y_get hC (pc := 225) zf14 rOb_0 26 (v := .ref (κ 1026)) dX14_readPrimary_225 zw2493 (rv_c rfl) (kk := ?_)
                  refine z_aload_n hC (pc := 228) 3 dX14_readPrimary_228 rfl rfl ?_
                  refine y_get hC (pc := 229) zf14 rOb_0 28 (v := iv (rF s219 0 28)) dX14_readPrimary_229 zw2495 (rv_i (Or.inl rfl) rfl) (kk := ?_)
                  have h := h (Ws219.f _ _)
                  refine z_aload_n hC (pc := 232) 3 dX14_readPrimary_232 rfl rfl ?_
                  refine y_get hC (pc := 233) zf14 rOb_0 29 (v := iv (rF σ 0 29)) dX14_readPrimary_233 zw2496 (rv_i (Or.inl rfl) ((qs219.1.F rfl).trans rfl)) (kk := ?_)
                  have h := h (hwf.f _ _)
                  obtain ⟨p35, h⟩ := h
                  refine y_callSi hC (pc := 236) (As := [.ref (κ 1026), iv (rF s219 0 28), iv (rF σ 0 29)]) (kX14_wordEnd_t l G κ s219 1026 4001 (rF s219 0 28) (rF σ 0 29) Ws219 (rAr_m rfl) (Ws219.f _ _) (hwf.f _ _) p35) dmX14_wordEnd dX14_readPrimary_236 zw3009 rfl rfl (Nat.le_of_ble_eq_true rfl) (Nat.le_of_ble_eq_true rfl) (by omega) (by omega) (Nat.le_of_ble_eq_true rfl) (kk := fun v236 s236 hv236 Ws236 qs236 => ?_)
                  obtain ⟨es236, qs236⟩ := qs236
                  have es236 := es236.symm
                  subst es236
                  have h := h v236 hv236 qs236
                  refine y_putI hC (pc := 239) zf14 rOb_0 29 (x := v236) dX14_readPrimary_239 zw2496 (Or.inl rfl) rfl rfl (kk := ?_)
                  have W36 := Ws219.sF (q := 0) (f := 29) (x := v236) hv236
                  refine z_aload_n hC (pc := 242) 3 dX14_readPrimary_242 rfl rfl ?_
                  refine z_bipush hC (pc := 243) (v := Int32.ofInt 40) dX14_readPrimary_243 (by decide) ?_
                  obtain ⟨p37, h⟩ := h
                  refine y_callVv hC (pc := 245) (As := [iv 40]) (kX14_need l G κ (sF s219 0 29 v236) 40 W36 (r_lit rfl) p37) dmX14_need zf14 rOb_0 dX14_readPrimary_245 zw3136 rfl rfl (Nat.le_of_ble_eq_true rfl) (Nat.le_of_ble_eq_true rfl) (by omega) (by omega) (Nat.le_of_ble_eq_true rfl) (kk := fun s245 Ws245 qs245 => ?_)
                  have h := h s245 Ws245 (rNMp.keep qs245.1 rfl rfl rfl rfl rfl) (TPRp.keep qs245.1 rfl rfl rfl) (WNp.keep qs245.1 rfl rfl rfl rfl rfl) (PNp.keep qs245.1 rfl rfl rfl rfl rfl) (CCp.keep qs245.1 rfl rfl rfl rfl rfl rfl rfl) (qs245.1.R rfl) (qs245.1.F rfl) (qs245.1.F rfl) (qs245.1.F rfl) (qs245.1.F rfl) (qs245.1.F rfl) (qs245.1.F rfl) (qs245.1.F rfl) (qs245.1.F rfl) (qs245.1.F rfl) (fun i => qs245.1.A (f := 26) (by decide) rfl) (fun i => qs245.1.A (f := 34) (by decide) rfl) (fun i => qs245.1.A (f := 35) (by decide) rfl) (fun i => qs245.1.A (f := 40) (by decide) rfl) (qs245.1.FG g0 rfl) (qs245.1.FG g0 rfl) (qs245.1.FG g0 rfl) (qs245.1.FG g0 rfl) (qs245.1.FG g0 rfl) (fun i => qs245.1.AG (f := 10) g0 (by decide) rfl) (fun i => qs245.1.AG (f := 11) g0 (by decide) rfl) (RG.keep (c0 := 0) qs245.1 rfl rfl rfl rfl rfl rfl rfl rfl rfl rfl rfl rfl rfl rfl rfl rfl rfl rfl) qs245.2
                  refine z_aload_n hC (pc := 248) 3 dX14_readPrimary_248 rfl rfl ?_
                  refine y_get hC (pc := 249) zf14 rOb_0 7 (v := .ref (κ (rR σ 7))) dX14_readPrimary_249 zw2475 (rv_g rfl ((qs245.1.R rfl).trans ((qs219.1.R rfl).trans rfl)) g0) (kk := ?_)
                  refine y_getN hC (pc := 252) zf13 (rOb_k g0) 2 (v := .ref (κ (1000 * ((rR σ 7) + 1) + 2))) dX14_readPrimary_252 zw2314 (rv_c rfl) (kk := ?_)
                  refine z_iload_n hC (pc := 255) 0 dX14_readPrimary_255 rfl rfl ?_
                  refine z_aload_n hC (pc := 256) 3 dX14_readPrimary_256 rfl rfl ?_
                  obtain ⟨g38, h⟩ := h
                  obtain ⟨p39, h⟩ := h
                  obtain ⟨p40, h⟩ := h
                  refine y_callVi hC (pc := 257) (As := []) (qX14_readArg ih s245 gg g38 Ws245  p39 p40) dmX14_readArg zf14 rOb_0 dX14_readPrimary_257 zw3234 rfl rfl (Nat.le_of_ble_eq_true rfl) (Nat.le_of_ble_eq_true rfl) (by omega) (by omega) (Nat.le_of_ble_eq_true rfl) (kk := fun v257 s257 hv257 Ws257 qs257 => ?_)
                  have h := h v257 s257 hv257 Ws257 (TPRp.keep qs257.1 rfl rfl rfl) (CCp.keep qs257.1 rfl rfl rfl rfl rfl rfl rfl) (qs257.1.R rfl) (qs257.1.F rfl) (qs257.1.F rfl) (qs257.1.F rfl) (qs257.1.F rfl) (qs257.1.F rfl) (qs257.1.F rfl) (fun i => qs257.1.A (f := 26) (by decide) rfl) qs257.2
                  obtain ⟨b41, h⟩ := h
                  refine y_iast hC (pc := 260) (rAr_k g0 rfl rfl) dX14_readPrimary_260 b41 (v := v257) (kk := ?_)
                  have W42 := Ws257.sA (p := (1000 * ((rR σ 7) + 1) + 2)) (i := v219) (x := v257) hv257
                  refine z_aload_n hC (pc := 261) 3 dX14_readPrimary_261 rfl rfl ?_
                  refine z_bipush hC (pc := 262) (v := Int32.ofInt 41) dX14_readPrimary_262 (by decide) ?_
                  obtain ⟨p43, h⟩ := h
                  refine y_callVv hC (pc := 264) (As := [iv 41]) (kX14_need l G κ (sT s257 (rR σ 7) 2 v219 v257) 41 W42 (r_lit rfl) p43) dmX14_need zf14 rOb_0 dX14_readPrimary_264 zw3136 rfl rfl (Nat.le_of_ble_eq_true rfl) (Nat.le_of_ble_eq_true rfl) (by omega) (by omega) (Nat.le_of_ble_eq_true rfl) (kk := fun s264 Ws264 qs264 => ?_)
                  have h := h s264 Ws264 (rNMp.keep qs264.1 rfl rfl rfl rfl rfl) (TPRp.keep qs264.1 rfl rfl rfl) (WNp.keep qs264.1 rfl rfl rfl rfl rfl) (PNp.keep qs264.1 rfl rfl rfl rfl rfl) (CCp.keep qs264.1 rfl rfl rfl rfl rfl rfl rfl) (qs264.1.R rfl) (qs264.1.F rfl) (qs264.1.F rfl) (qs264.1.F rfl) (qs264.1.F rfl) (qs264.1.F rfl) (qs264.1.F rfl) (qs264.1.F rfl) (qs264.1.F rfl) (qs264.1.F rfl) (fun i => qs264.1.A (f := 26) (by decide) rfl) (fun i => qs264.1.A (f := 34) (by decide) rfl) (fun i => qs264.1.A (f := 35) (by decide) rfl) (fun i => qs264.1.A (f := 40) (by decide) rfl) (qs264.1.FG g0 rfl) (qs264.1.FG g0 rfl) (qs264.1.FG g0 rfl) (qs264.1.FG g0 rfl) (qs264.1.FG g0 rfl) (fun i => qs264.1.AG (f := 10) g0 (by decide) rfl) (fun i => qs264.1.AG (f := 11) g0 (by decide) rfl) (RG.keep (c0 := 0) qs264.1 rfl rfl rfl rfl rfl rfl rfl rfl rfl rfl rfl rfl rfl rfl rfl rfl rfl rfl) qs264.2
                  refine z_iload_n hC (pc := 267) 0 dX14_readPrimary_267 rfl rfl ?_
                  exact y_reti hR dX14_readPrimary_268 rfl hv219 Ws264 (Nat.le_of_ble_eq_true rfl) (Nat.le_of_ble_eq_true rfl) ⟨(rKeep.tr (rKeep.tr (rKeep.tr (rKeep.tr (rKeep.tr (rKeep.tr rKeep.rf qs219.1 rfl rfl rfl rfl rfl) (rKeep.sF0 (f := 29)) rfl rfl rfl rfl rfl) qs245.1 rfl rfl rfl rfl rfl) qs257.1 rfl rfl rfl rfl rfl) (rKeep.sAk (f := 2) g0 (by decide)) rfl rfl rfl rfl rfl) qs264.1 rfl rfl rfl rfl rfl), h⟩
              · have h := hF c
                refine z_aload_n hC (pc := 157) 2 dX14_readPrimary_157 rfl rfl ?_
                refine z_aload_n hC (pc := 158) 2 dX14_readPrimary_158 rfl rfl ?_
                refine z_ldcSw hC (pc := 159) dX14_readPrimary_159 zS_26 ?_
                obtain ⟨p44, h⟩ := h
                refine y_callVi hC (pc := 162) (As := [.ref (G.2.2 53)]) (kX14_isWord_t l G κ σ (G.2.2 53) 4 hwf (rSt_26 G) p44) dmX14_isWord zf14 rOb_0 dX14_readPrimary_162 zw3128 rfl rfl (Nat.le_of_ble_eq_true rfl) (Nat.le_of_ble_eq_true rfl) (by omega) (by omega) (Nat.le_of_ble_eq_true rfl) (kk := fun v162 s162 hv162 Ws162 qs162 => ?_)
                obtain ⟨es162, qs162⟩ := qs162
                have es162 := es162.symm
                subst es162
                have h := h v162 hv162 qs162
                obtain ⟨hT, hF⟩ := h
                refine y_if_eq hC (pc := 165) 173 hv162 dX14_readPrimary_165 (by decide) (fun c => ?_) (fun c => ?_)
                · have h := hT c
                  refine z_bipush hC (pc := 173) (v := Int32.ofInt 32) dX14_readPrimary_173 (by decide) ?_
                  refine z_iconst hC (pc := 175) (v := Int32.ofInt 0) dX14_readPrimary_175 (by decide) ?_
                  refine z_iconst hC (pc := 176) (v := Int32.ofInt 0) dX14_readPrimary_176 (by decide) ?_
                  refine z_iload_n hC (pc := 177) 1 dX14_readPrimary_177 rfl rfl ?_
                  obtain ⟨p45, h⟩ := h
                  refine y_callVi hC (pc := 178) (As := [iv 32, iv 0, iv 0, iv v1]) (kX14_node_t l G κ σ 32 0 0 v1 gg hwf (r_lit rfl) (r_lit rfl) (r_lit rfl) hv1 p45) dmX14_node zf14 rOb_0 dX14_readPrimary_178 zw3170 rfl rfl (Nat.le_of_ble_eq_true rfl) (Nat.le_of_ble_eq_true rfl) (by omega) (by omega) (Nat.le_of_ble_eq_true rfl) (kk := fun v178 s178 hv178 Ws178 qs178 => ?_)
                  have h := h v178 s178 hv178 Ws178 (rNMp.keep qs178.1 rfl rfl rfl rfl rfl) (TPRp.keep qs178.1 rfl rfl rfl) (WNp.keep qs178.1 rfl rfl rfl rfl rfl) (CCp.keep qs178.1 rfl rfl rfl rfl rfl rfl rfl) (qs178.1.R rfl) (qs178.1.F rfl) (qs178.1.F rfl) (qs178.1.F rfl) (qs178.1.F rfl) (qs178.1.F rfl) (qs178.1.F rfl) (qs178.1.F rfl) (qs178.1.F rfl) (qs178.1.F rfl) (qs178.1.F rfl) (qs178.1.F rfl) (fun i => qs178.1.A (f := 26) (by decide) rfl) (fun i => qs178.1.A (f := 34) (by decide) rfl) (fun i => qs178.1.A (f := 35) (by decide) rfl) (fun i => qs178.1.A (f := 40) (by decide) rfl) (qs178.1.FG g0 rfl) (qs178.1.FG g0 rfl) (qs178.1.FG g0 rfl) (qs178.1.FG g0 rfl) (fun i => qs178.1.AG (f := 10) g0 (by decide) rfl) (fun i => qs178.1.AG (f := 11) g0 (by decide) rfl) (fz_keep qs178.1 rfl) qs178.2
                  refine z_istore_n hC (pc := 181) (lv' := [(3, iv v178), (2, iv v6), (1, iv v1), (0, .ref (κ 0))]) dX14_readPrimary_181 rfl (by decide) rfl ?_
                  refine z_aload_n hC (pc := 182) 3 dX14_readPrimary_182 rfl rfl ?_
                  refine z_aload_n hC (pc := 183) 3 dX14_readPrimary_183 rfl rfl ?_
                  refine y_get hC (pc := 184) zf14 rOb_0 26 (v := .ref (κ 1026)) dX14_readPrimary_184 zw2493 (rv_c rfl) (kk := ?_)
                  refine z_aload_n hC (pc := 187) 3 dX14_readPrimary_187 rfl rfl ?_
                  refine y_get hC (pc := 188) zf14 rOb_0 28 (v := iv (rF s178 0 28)) dX14_readPrimary_188 zw2495 (rv_i (Or.inl rfl) rfl) (kk := ?_)
                  have h := h (Ws178.f _ _)
                  refine z_aload_n hC (pc := 191) 3 dX14_readPrimary_191 rfl rfl ?_
                  refine y_get hC (pc := 192) zf14 rOb_0 29 (v := iv (rF σ 0 29)) dX14_readPrimary_192 zw2496 (rv_i (Or.inl rfl) ((qs178.1.F rfl).trans rfl)) (kk := ?_)
                  have h := h (hwf.f _ _)
                  obtain ⟨p46, h⟩ := h
                  refine y_callSi hC (pc := 195) (As := [.ref (κ 1026), iv (rF s178 0 28), iv (rF σ 0 29)]) (kX14_wordEnd_t l G κ s178 1026 4001 (rF s178 0 28) (rF σ 0 29) Ws178 (rAr_m rfl) (Ws178.f _ _) (hwf.f _ _) p46) dmX14_wordEnd dX14_readPrimary_195 zw3009 rfl rfl (Nat.le_of_ble_eq_true rfl) (Nat.le_of_ble_eq_true rfl) (by omega) (by omega) (Nat.le_of_ble_eq_true rfl) (kk := fun v195 s195 hv195 Ws195 qs195 => ?_)
                  obtain ⟨es195, qs195⟩ := qs195
                  have es195 := es195.symm
                  subst es195
                  have h := h v195 hv195 qs195
                  refine y_putI hC (pc := 198) zf14 rOb_0 29 (x := v195) dX14_readPrimary_198 zw2496 (Or.inl rfl) rfl rfl (kk := ?_)
                  have W47 := Ws178.sF (q := 0) (f := 29) (x := v195) hv195
                  refine z_iload_n hC (pc := 201) 0 dX14_readPrimary_201 rfl rfl ?_
                  exact y_reti hR dX14_readPrimary_202 rfl hv178 W47 (Nat.le_of_ble_eq_true rfl) (Nat.le_of_ble_eq_true rfl) ⟨(rKeep.tr (rKeep.tr rKeep.rf qs178.1 rfl rfl rfl rfl rfl) (rKeep.sF0 (f := 29)) rfl rfl rfl rfl rfl), h⟩
                · have h := hF c
                  refine z_bipush hC (pc := 168) (v := Int32.ofInt 31) dX14_readPrimary_168 (by decide) ?_
                  refine z_goto hC (pc := 170) 175 dX14_readPrimary_170 (by decide) ?_
                  refine z_iconst hC (pc := 175) (v := Int32.ofInt 0) dX14_readPrimary_175 (by decide) ?_
                  refine z_iconst hC (pc := 176) (v := Int32.ofInt 0) dX14_readPrimary_176 (by decide) ?_
                  refine z_iload_n hC (pc := 177) 1 dX14_readPrimary_177 rfl rfl ?_
                  obtain ⟨p48, h⟩ := h
                  refine y_callVi hC (pc := 178) (As := [iv 31, iv 0, iv 0, iv v1]) (kX14_node_t l G κ σ 31 0 0 v1 gg hwf (r_lit rfl) (r_lit rfl) (r_lit rfl) hv1 p48) dmX14_node zf14 rOb_0 dX14_readPrimary_178 zw3170 rfl rfl (Nat.le_of_ble_eq_true rfl) (Nat.le_of_ble_eq_true rfl) (by omega) (by omega) (Nat.le_of_ble_eq_true rfl) (kk := fun v178 s178 hv178 Ws178 qs178 => ?_)
                  have h := h v178 s178 hv178 Ws178 (rNMp.keep qs178.1 rfl rfl rfl rfl rfl) (TPRp.keep qs178.1 rfl rfl rfl) (WNp.keep qs178.1 rfl rfl rfl rfl rfl) (CCp.keep qs178.1 rfl rfl rfl rfl rfl rfl rfl) (qs178.1.R rfl) (qs178.1.F rfl) (qs178.1.F rfl) (qs178.1.F rfl) (qs178.1.F rfl) (qs178.1.F rfl) (qs178.1.F rfl) (qs178.1.F rfl) (qs178.1.F rfl) (qs178.1.F rfl) (qs178.1.F rfl) (qs178.1.F rfl) (fun i => qs178.1.A (f := 26) (by decide) rfl) (fun i => qs178.1.A (f := 34) (by decide) rfl) (fun i => qs178.1.A (f := 35) (by decide) rfl) (fun i => qs178.1.A (f := 40) (by decide) rfl) (qs178.1.FG g0 rfl) (qs178.1.FG g0 rfl) (qs178.1.FG g0 rfl) (qs178.1.FG g0 rfl) (fun i => qs178.1.AG (f := 10) g0 (by decide) rfl) (fun i => qs178.1.AG (f := 11) g0 (by decide) rfl) (fz_keep qs178.1 rfl) qs178.2
                  refine z_istore_n hC (pc := 181) (lv' := [(3, iv v178), (2, iv v6), (1, iv v1), (0, .ref (κ 0))]) dX14_readPrimary_181 rfl (by decide) rfl ?_
                  refine z_aload_n hC (pc := 182) 3 dX14_readPrimary_182 rfl rfl ?_
                  refine z_aload_n hC (pc := 183) 3 dX14_readPrimary_183 rfl rfl ?_
                  refine y_get hC (pc := 184) zf14 rOb_0 26 (v := .ref (κ 1026)) dX14_readPrimary_184 zw2493 (rv_c rfl) (kk := ?_)
                  refine z_aload_n hC (pc := 187) 3 dX14_readPrimary_187 rfl rfl ?_
                  refine y_get hC (pc := 188) zf14 rOb_0 28 (v := iv (rF s178 0 28)) dX14_readPrimary_188 zw2495 (rv_i (Or.inl rfl) rfl) (kk := ?_)
                  have h := h (Ws178.f _ _)
                  refine z_aload_n hC (pc := 191) 3 dX14_readPrimary_191 rfl rfl ?_
                  refine y_get hC (pc := 192) zf14 rOb_0 29 (v := iv (rF σ 0 29)) dX14_readPrimary_192 zw2496 (rv_i (Or.inl rfl) ((qs178.1.F rfl).trans rfl)) (kk := ?_)
                  have h := h (hwf.f _ _)
                  obtain ⟨p49, h⟩ := h
                  refine y_callSi hC (pc := 195) (As := [.ref (κ 1026), iv (rF s178 0 28), iv (rF σ 0 29)]) (kX14_wordEnd_t l G κ s178 1026 4001 (rF s178 0 28) (rF σ 0 29) Ws178 (rAr_m rfl) (Ws178.f _ _) (hwf.f _ _) p49) dmX14_wordEnd dX14_readPrimary_195 zw3009 rfl rfl (Nat.le_of_ble_eq_true rfl) (Nat.le_of_ble_eq_true rfl) (by omega) (by omega) (Nat.le_of_ble_eq_true rfl) (kk := fun v195 s195 hv195 Ws195 qs195 => ?_)
                  obtain ⟨es195, qs195⟩ := qs195
                  have es195 := es195.symm
                  subst es195
                  have h := h v195 hv195 qs195
                  refine y_putI hC (pc := 198) zf14 rOb_0 29 (x := v195) dX14_readPrimary_198 zw2496 (Or.inl rfl) rfl rfl (kk := ?_)
                  have W50 := Ws178.sF (q := 0) (f := 29) (x := v195) hv195
                  refine z_iload_n hC (pc := 201) 0 dX14_readPrimary_201 rfl rfl ?_
                  exact y_reti hR dX14_readPrimary_202 rfl hv178 W50 (Nat.le_of_ble_eq_true rfl) (Nat.le_of_ble_eq_true rfl) ⟨(rKeep.tr (rKeep.tr rKeep.rf qs178.1 rfl rfl rfl rfl rfl) (rKeep.sF0 (f := 29)) rfl rfl rfl rfl rfl), h⟩
          · have h := hF c
            refine z_aload_n hC (pc := 56) 2 dX14_readPrimary_56 rfl rfl ?_
            refine z_dup hC (pc := 57) dX14_readPrimary_57 rfl ?_
            refine y_get hC (pc := 58) zf14 rOb_0 29 (v := iv (rF σ 0 29)) dX14_readPrimary_58 zw2496 (rv_i (Or.inl rfl) rfl) (kk := ?_)
            have h := h (hwf.f _ _)
            refine z_iconst hC (pc := 61) (v := Int32.ofInt 1) dX14_readPrimary_61 (by decide) ?_
            refine y_iadd hC (pc := 62) (v := ((rF σ 0 29) + 1)) dX14_readPrimary_62 rfl ?_
            obtain ⟨r51, h⟩ := h
            refine y_putI hC (pc := 63) zf14 rOb_0 29 (x := ((rF σ 0 29) + 1)) dX14_readPrimary_63 zw2496 (Or.inl rfl) rfl rfl (kk := ?_)
            have W52 := hwf.sF (q := 0) (f := 29) (x := ((rF σ 0 29) + 1)) r51
            refine z_aload_n hC (pc := 66) 2 dX14_readPrimary_66 rfl rfl ?_
            obtain ⟨g53, h⟩ := h
            obtain ⟨p54, h⟩ := h
            obtain ⟨p55, h⟩ := h
            refine y_callVi hC (pc := 67) (As := []) (qX14_readArg ih (sF σ 0 29 ((rF σ 0 29) + 1)) gg g53 W52  p54 p55) dmX14_readArg zf14 rOb_0 dX14_readPrimary_67 zw3234 rfl rfl (Nat.le_of_ble_eq_true rfl) (Nat.le_of_ble_eq_true rfl) (by omega) (by omega) (Nat.le_of_ble_eq_true rfl) (kk := fun v67 s67 hv67 Ws67 qs67 => ?_)
            have h := h v67 s67 hv67 Ws67 (TPRp.keep qs67.1 rfl rfl rfl) (CCp.keep qs67.1 rfl rfl rfl rfl rfl rfl rfl) (qs67.1.R rfl) (qs67.1.F rfl) (qs67.1.F rfl) (qs67.1.F rfl) (qs67.1.F rfl) (qs67.1.F rfl) (qs67.1.F rfl) (fun i => qs67.1.A (f := 26) (by decide) rfl) qs67.2
            refine z_istore_n hC (pc := 70) (lv' := [(3, iv v67), (2, iv v6), (1, iv v1), (0, .ref (κ 0))]) dX14_readPrimary_70 rfl (by decide) rfl ?_
            refine z_aload_n hC (pc := 71) 3 dX14_readPrimary_71 rfl rfl ?_
            refine z_bipush hC (pc := 72) (v := Int32.ofInt 41) dX14_readPrimary_72 (by decide) ?_
            obtain ⟨p56, h⟩ := h
            refine y_callVv hC (pc := 74) (As := [iv 41]) (kX14_need l G κ s67 41 Ws67 (r_lit rfl) p56) dmX14_need zf14 rOb_0 dX14_readPrimary_74 zw3136 rfl rfl (Nat.le_of_ble_eq_true rfl) (Nat.le_of_ble_eq_true rfl) (by omega) (by omega) (Nat.le_of_ble_eq_true rfl) (kk := fun s74 Ws74 qs74 => ?_)
            have h := h s74 Ws74 (rNMp.keep qs74.1 rfl rfl rfl rfl rfl) (TPRp.keep qs74.1 rfl rfl rfl) (WNp.keep qs74.1 rfl rfl rfl rfl rfl) (PNp.keep qs74.1 rfl rfl rfl rfl rfl) (CCp.keep qs74.1 rfl rfl rfl rfl rfl rfl rfl) (qs74.1.R rfl) (qs74.1.F rfl) (qs74.1.F rfl) (qs74.1.F rfl) (qs74.1.F rfl) (qs74.1.F rfl) (qs74.1.F rfl) (qs74.1.F rfl) (qs74.1.F rfl) (qs74.1.F rfl) (fun i => qs74.1.A (f := 26) (by decide) rfl) (fun i => qs74.1.A (f := 34) (by decide) rfl) (fun i => qs74.1.A (f := 35) (by decide) rfl) (fun i => qs74.1.A (f := 40) (by decide) rfl) (qs74.1.FG g0 rfl) (qs74.1.FG g0 rfl) (qs74.1.FG g0 rfl) (qs74.1.FG g0 rfl) (qs74.1.FG g0 rfl) (fun i => qs74.1.AG (f := 10) g0 (by decide) rfl) (fun i => qs74.1.AG (f := 11) g0 (by decide) rfl) (RG.keep (c0 := 0) qs74.1 rfl rfl rfl rfl rfl rfl rfl rfl rfl rfl rfl rfl rfl rfl rfl rfl rfl rfl) qs74.2
            refine z_aload_n hC (pc := 77) 3 dX14_readPrimary_77 rfl rfl ?_
            obtain ⟨p57, h⟩ := h
            refine y_callVv hC (pc := 78) (As := []) (kX14_blanks l G κ s74  Ws74  p57) dmX14_blanks zf14 rOb_0 dX14_readPrimary_78 zw3119 rfl rfl (Nat.le_of_ble_eq_true rfl) (Nat.le_of_ble_eq_true rfl) (by omega) (by omega) (Nat.le_of_ble_eq_true rfl) (kk := fun s78 Ws78 qs78 => ?_)
            have h := h s78 Ws78 (rNMp.keep qs78.1 rfl rfl rfl rfl rfl) (TPRp.keep qs78.1 rfl rfl rfl) (WNp.keep qs78.1 rfl rfl rfl rfl rfl) (PNp.keep qs78.1 rfl rfl rfl rfl rfl) (CCp.keep qs78.1 rfl rfl rfl rfl rfl rfl rfl) (qs78.1.R rfl) (qs78.1.F rfl) (qs78.1.F rfl) (qs78.1.F rfl) (qs78.1.F rfl) (qs78.1.F rfl) (qs78.1.F rfl) (qs78.1.F rfl) (qs78.1.F rfl) (qs78.1.F rfl) (qs78.1.F rfl) (fun i => qs78.1.A (f := 26) (by decide) rfl) (fun i => qs78.1.A (f := 34) (by decide) rfl) (fun i => qs78.1.A (f := 35) (by decide) rfl) (fun i => qs78.1.A (f := 40) (by decide) rfl) (qs78.1.FG g0 rfl) (qs78.1.FG g0 rfl) (qs78.1.FG g0 rfl) (qs78.1.FG g0 rfl) (qs78.1.FG g0 rfl) (fun i => qs78.1.AG (f := 10) g0 (by decide) rfl) (fun i => qs78.1.AG (f := 11) g0 (by decide) rfl) (fz_keep qs78.1 rfl) (RG.keep (c0 := 0) qs78.1 rfl rfl rfl rfl rfl rfl rfl rfl rfl rfl rfl rfl rfl rfl rfl rfl rfl rfl) qs78.2
            refine z_aload_n hC (pc := 81) 3 dX14_readPrimary_81 rfl rfl ?_
            obtain ⟨p58, h⟩ := h
            refine y_callVi hC (pc := 82) (As := []) (kX14_here l G κ s78  Ws78  p58) dmX14_here zf14 rOb_0 dX14_readPrimary_82 zw3099 rfl rfl (Nat.le_of_ble_eq_true rfl) (Nat.le_of_ble_eq_true rfl) (by omega) (by omega) (Nat.le_of_ble_eq_true rfl) (kk := fun v82 s82 hv82 Ws82 qs82 => ?_)
            obtain ⟨es82, qs82⟩ := qs82
            have es82 := es82.symm
            subst es82
            have h := h v82 hv82 qs82
            refine z_bipush hC (pc := 85) (v := Int32.ofInt 40) dX14_readPrimary_85 (by decide) ?_
            obtain ⟨hT, hF⟩ := h
            refine y_icmp_ne hC (pc := 87) 97 hv82 (r_lit rfl) dX14_readPrimary_87 (by decide) (fun c => ?_) (fun c => ?_)
            · have h := hT c
              refine z_aload_n hC (pc := 97) 3 dX14_readPrimary_97 rfl rfl ?_
              refine z_bipush hC (pc := 98) (v := Int32.ofInt 39) dX14_readPrimary_98 (by decide) ?_
              refine z_iload_n hC (pc := 100) 0 dX14_readPrimary_100 rfl rfl ?_
              refine z_iconst hC (pc := 101) (v := Int32.ofInt 0) dX14_readPrimary_101 (by decide) ?_
              refine z_iload_n hC (pc := 102) 2 dX14_readPrimary_102 rfl rfl ?_
              obtain ⟨p59, h⟩ := h
              refine y_callVi hC (pc := 103) (As := [iv 39, iv v67, iv 0, iv v1]) (kX14_node_t l G κ s78 39 v67 0 v1 gg Ws78 (r_lit rfl) hv67 (r_lit rfl) hv1 p59) dmX14_node zf14 rOb_0 dX14_readPrimary_103 zw3170 rfl rfl (Nat.le_of_ble_eq_true rfl) (Nat.le_of_ble_eq_true rfl) (by omega) (by omega) (Nat.le_of_ble_eq_true rfl) (kk := fun v103 s103 hv103 Ws103 qs103 => ?_)
              have h := h v103 s103 hv103 Ws103 (rNMp.keep qs103.1 rfl rfl rfl rfl rfl) (TPRp.keep qs103.1 rfl rfl rfl) (WNp.keep qs103.1 rfl rfl rfl rfl rfl) (CCp.keep qs103.1 rfl rfl rfl rfl rfl rfl rfl) (qs103.1.R rfl) (qs103.1.F rfl) (qs103.1.F rfl) (qs103.1.F rfl) (qs103.1.F rfl) (qs103.1.F rfl) (qs103.1.F rfl) (qs103.1.F rfl) (qs103.1.F rfl) (qs103.1.F rfl) (qs103.1.F rfl) (qs103.1.F rfl) (fun i => qs103.1.A (f := 26) (by decide) rfl) (fun i => qs103.1.A (f := 34) (by decide) rfl) (fun i => qs103.1.A (f := 35) (by decide) rfl) (fun i => qs103.1.A (f := 40) (by decide) rfl) (qs103.1.FG g0 rfl) (qs103.1.FG g0 rfl) (qs103.1.FG g0 rfl) (qs103.1.FG g0 rfl) (fun i => qs103.1.AG (f := 10) g0 (by decide) rfl) (fun i => qs103.1.AG (f := 11) g0 (by decide) rfl) (fz_keep qs103.1 rfl) qs103.2
              exact y_reti hR dX14_readPrimary_106 rfl hv103 Ws103 (Nat.le_of_ble_eq_true rfl) (Nat.le_of_ble_eq_true rfl) ⟨(rKeep.tr (rKeep.tr (rKeep.tr (rKeep.tr (rKeep.tr rKeep.rf (rKeep.sF0 (f := 29)) rfl rfl rfl rfl rfl) qs67.1 rfl rfl rfl rfl rfl) qs74.1 rfl rfl rfl rfl rfl) qs78.1 rfl rfl rfl rfl rfl) qs103.1 rfl rfl rfl rfl rfl), h⟩
            · have h := hF c
              refine z_aload_n hC (pc := 90) 3 dX14_readPrimary_90 rfl rfl ?_
              refine y_get hC (pc := 91) zf14 rOb_0 10 (v := iv (rF s78 0 10)) dX14_readPrimary_91 zw2478 (rv_i (Or.inl rfl) rfl) (kk := ?_)
              have h := h (Ws78.f _ _)
              obtain ⟨hT, hF⟩ := h
              refine y_if_eq hC (pc := 94) 107 (Ws78.f _ _) dX14_readPrimary_94 (by decide) (fun c => ?_) (fun c => ?_)
              · have h := hT c
                refine z_aload_n hC (pc := 107) 3 dX14_readPrimary_107 rfl rfl ?_
                refine z_dup hC (pc := 108) dX14_readPrimary_108 rfl ?_
                refine y_get hC (pc := 109) zf14 rOb_0 29 (v := iv (rF s78 0 29)) dX14_readPrimary_109 zw2496 (rv_i (Or.inl rfl) rfl) (kk := ?_)
                have h := h (Ws78.f _ _)
                refine z_iconst hC (pc := 112) (v := Int32.ofInt 1) dX14_readPrimary_112 (by decide) ?_
                refine y_iadd hC (pc := 113) (v := ((rF s78 0 29) + 1)) dX14_readPrimary_113 rfl ?_
                obtain ⟨r60, h⟩ := h
                refine y_putI hC (pc := 114) zf14 rOb_0 29 (x := ((rF s78 0 29) + 1)) dX14_readPrimary_114 zw2496 (Or.inl rfl) rfl rfl (kk := ?_)
                have W61 := Ws78.sF (q := 0) (f := 29) (x := ((rF s78 0 29) + 1)) r60
                refine z_aload_n hC (pc := 117) 3 dX14_readPrimary_117 rfl rfl ?_
                refine z_bipush hC (pc := 118) (v := Int32.ofInt 37) dX14_readPrimary_118 (by decide) ?_
                refine z_iload_n hC (pc := 120) 0 dX14_readPrimary_120 rfl rfl ?_
                refine z_iconst hC (pc := 121) (v := Int32.ofInt 0) dX14_readPrimary_121 (by decide) ?_
                refine z_iload_n hC (pc := 122) 2 dX14_readPrimary_122 rfl rfl ?_
                obtain ⟨p62, h⟩ := h
                refine y_callVi hC (pc := 123) (As := [iv 37, iv v67, iv 0, iv v1]) (kX14_node_t l G κ (sF s78 0 29 ((rF s78 0 29) + 1)) 37 v67 0 v1 gg W61 (r_lit rfl) hv67 (r_lit rfl) hv1 p62) dmX14_node zf14 rOb_0 dX14_readPrimary_123 zw3170 rfl rfl (Nat.le_of_ble_eq_true rfl) (Nat.le_of_ble_eq_true rfl) (by omega) (by omega) (Nat.le_of_ble_eq_true rfl) (kk := fun v123 s123 hv123 Ws123 qs123 => ?_)
                have h := h v123 s123 hv123 Ws123 (rNMp.keep qs123.1 rfl rfl rfl rfl rfl) (TPRp.keep qs123.1 rfl rfl rfl) (WNp.keep qs123.1 rfl rfl rfl rfl rfl) (CCp.keep qs123.1 rfl rfl rfl rfl rfl rfl rfl) (qs123.1.R rfl) (qs123.1.F rfl) (qs123.1.F rfl) (qs123.1.F rfl) (qs123.1.F rfl) (qs123.1.F rfl) (qs123.1.F rfl) (qs123.1.F rfl) (qs123.1.F rfl) (qs123.1.F rfl) (qs123.1.F rfl) (qs123.1.F rfl) (fun i => qs123.1.A (f := 26) (by decide) rfl) (fun i => qs123.1.A (f := 34) (by decide) rfl) (fun i => qs123.1.A (f := 35) (by decide) rfl) (fun i => qs123.1.A (f := 40) (by decide) rfl) (qs123.1.FG g0 rfl) (qs123.1.FG g0 rfl) (qs123.1.FG g0 rfl) (qs123.1.FG g0 rfl) (fun i => qs123.1.AG (f := 10) g0 (by decide) rfl) (fun i => qs123.1.AG (f := 11) g0 (by decide) rfl) (fz_keep qs123.1 rfl) qs123.2
                refine z_istore hC (pc := 126) (lv' := [(4, iv v123), (3, iv v67), (2, iv v6), (1, iv v1), (0, .ref (κ 0))]) dX14_readPrimary_126 (by decide) rfl ?_
                refine z_aload_n hC (pc := 128) 4 dX14_readPrimary_128 rfl rfl ?_
                refine z_iload hC (pc := 129) 0 dX14_readPrimary_129 rfl ?_
                obtain ⟨g63, h⟩ := h
                obtain ⟨K64, h⟩ := h
                obtain ⟨p65, h⟩ := h
                obtain ⟨p66, h⟩ := h
                refine y_callVv hC (pc := 131) (As := [iv v123]) (qX14_readArgs ih s123 v123 gg g63 K64 Ws123 hv123 p65 p66) dmX14_readArgs zf14 rOb_0 dX14_readPrimary_131 zw3246 rfl rfl (Nat.le_of_ble_eq_true rfl) (Nat.le_of_ble_eq_true rfl) (by omega) (by omega) (Nat.le_of_ble_eq_true rfl) (kk := fun s131 Ws131 qs131 => ?_)
                have h := h s131 Ws131 (TPRp.keep qs131.1 rfl rfl rfl) (CCp.keep qs131.1 rfl rfl rfl rfl rfl rfl rfl) (qs131.1.R rfl) (qs131.1.F rfl) (qs131.1.F rfl) (qs131.1.F rfl) (qs131.1.F rfl) (qs131.1.F rfl) (qs131.1.F rfl) (fun i => qs131.1.A (f := 26) (by decide) rfl) qs131.2
                refine z_iload hC (pc := 134) 0 dX14_readPrimary_134 rfl ?_
                exact y_reti hR dX14_readPrimary_136 rfl hv123 Ws131 (Nat.le_of_ble_eq_true rfl) (Nat.le_of_ble_eq_true rfl) ⟨(rKeep.tr (rKeep.tr (rKeep.tr (rKeep.tr (rKeep.tr (rKeep.tr (rKeep.tr rKeep.rf (rKeep.sF0 (f := 29)) rfl rfl rfl rfl rfl) qs67.1 rfl rfl rfl rfl rfl) qs74.1 rfl rfl rfl rfl rfl) qs78.1 rfl rfl rfl rfl rfl) (rKeep.sF0 (f := 29)) rfl rfl rfl rfl rfl) qs123.1 rfl rfl rfl rfl rfl) qs131.1 rfl rfl rfl rfl rfl), h⟩
              · have h := hF c
                refine z_aload_n hC (pc := 97) 3 dX14_readPrimary_97 rfl rfl ?_
                refine z_bipush hC (pc := 98) (v := Int32.ofInt 39) dX14_readPrimary_98 (by decide) ?_
                refine z_iload_n hC (pc := 100) 0 dX14_readPrimary_100 rfl rfl ?_
                refine z_iconst hC (pc := 101) (v := Int32.ofInt 0) dX14_readPrimary_101 (by decide) ?_
                refine z_iload_n hC (pc := 102) 2 dX14_readPrimary_102 rfl rfl ?_
                obtain ⟨p67, h⟩ := h
                refine y_callVi hC (pc := 103) (As := [iv 39, iv v67, iv 0, iv v1]) (kX14_node_t l G κ s78 39 v67 0 v1 gg Ws78 (r_lit rfl) hv67 (r_lit rfl) hv1 p67) dmX14_node zf14 rOb_0 dX14_readPrimary_103 zw3170 rfl rfl (Nat.le_of_ble_eq_true rfl) (Nat.le_of_ble_eq_true rfl) (by omega) (by omega) (Nat.le_of_ble_eq_true rfl) (kk := fun v103 s103 hv103 Ws103 qs103 => ?_)
                have h := h v103 s103 hv103 Ws103 (rNMp.keep qs103.1 rfl rfl rfl rfl rfl) (TPRp.keep qs103.1 rfl rfl rfl) (WNp.keep qs103.1 rfl rfl rfl rfl rfl) (CCp.keep qs103.1 rfl rfl rfl rfl rfl rfl rfl) (qs103.1.R rfl) (qs103.1.F rfl) (qs103.1.F rfl) (qs103.1.F rfl) (qs103.1.F rfl) (qs103.1.F rfl) (qs103.1.F rfl) (qs103.1.F rfl) (qs103.1.F rfl) (qs103.1.F rfl) (qs103.1.F rfl) (qs103.1.F rfl) (fun i => qs103.1.A (f := 26) (by decide) rfl) (fun i => qs103.1.A (f := 34) (by decide) rfl) (fun i => qs103.1.A (f := 35) (by decide) rfl) (fun i => qs103.1.A (f := 40) (by decide) rfl) (qs103.1.FG g0 rfl) (qs103.1.FG g0 rfl) (qs103.1.FG g0 rfl) (qs103.1.FG g0 rfl) (fun i => qs103.1.AG (f := 10) g0 (by decide) rfl) (fun i => qs103.1.AG (f := 11) g0 (by decide) rfl) (fz_keep qs103.1 rfl) qs103.2
                exact y_reti hR dX14_readPrimary_106 rfl hv103 Ws103 (Nat.le_of_ble_eq_true rfl) (Nat.le_of_ble_eq_true rfl) ⟨(rKeep.tr (rKeep.tr (rKeep.tr (rKeep.tr (rKeep.tr rKeep.rf (rKeep.sF0 (f := 29)) rfl rfl rfl rfl rfl) qs67.1 rfl rfl rfl rfl rfl) qs74.1 rfl rfl rfl rfl rfl) qs78.1 rfl rfl rfl rfl rfl) qs103.1 rfl rfl rfl rfl rfl), h⟩
        · have h := hF c
          refine z_aload_n hC (pc := 45) 2 dX14_readPrimary_45 rfl rfl ?_
          obtain ⟨g68, h⟩ := h
          obtain ⟨p69, h⟩ := h
          obtain ⟨p70, h⟩ := h
          refine y_callVi hC (pc := 46) (As := []) (qX14_readRow ih σ gg g68 hwf  p69 p70) dmX14_readRow zf14 rOb_0 dX14_readPrimary_46 zw3230 rfl rfl (Nat.le_of_ble_eq_true rfl) (Nat.le_of_ble_eq_true rfl) (by omega) (by omega) (Nat.le_of_ble_eq_true rfl) (kk := fun v46 s46 hv46 Ws46 qs46 => ?_)
          have h := h v46 s46 hv46 Ws46 (TPRp.keep qs46.1 rfl rfl rfl) (CCp.keep qs46.1 rfl rfl rfl rfl rfl rfl rfl) (qs46.1.R rfl) (qs46.1.F rfl) (qs46.1.F rfl) (qs46.1.F rfl) (qs46.1.F rfl) (qs46.1.F rfl) (qs46.1.F rfl) (fun i => qs46.1.A (f := 26) (by decide) rfl) qs46.2
          exact y_reti hR dX14_readPrimary_49 rfl hv46 Ws46 (Nat.le_of_ble_eq_true rfl) (Nat.le_of_ble_eq_true rfl) ⟨(rKeep.tr rKeep.rf qs46.1 rfl rfl rfl rfl rfl), h⟩
      · have h := hF c
        refine z_aload_n hC (pc := 34) 2 dX14_readPrimary_34 rfl rfl ?_
        obtain ⟨g71, h⟩ := h
        obtain ⟨p72, h⟩ := h
        obtain ⟨p73, h⟩ := h
        refine y_callVi hC (pc := 35) (As := []) (qX14_readSub ih σ gg g71 hwf  p72 p73) dmX14_readSub zf14 rOb_0 dX14_readPrimary_35 zw3222 rfl rfl (Nat.le_of_ble_eq_true rfl) (Nat.le_of_ble_eq_true rfl) (by omega) (by omega) (Nat.le_of_ble_eq_true rfl) (kk := fun v35 s35 hv35 Ws35 qs35 => ?_)
        have h := h v35 s35 hv35 Ws35 (TPRp.keep qs35.1 rfl rfl rfl) (CCp.keep qs35.1 rfl rfl rfl rfl rfl rfl rfl) (qs35.1.R rfl) (qs35.1.F rfl) (qs35.1.F rfl) (qs35.1.F rfl) (qs35.1.F rfl) (qs35.1.F rfl) (qs35.1.F rfl) (fun i => qs35.1.A (f := 26) (by decide) rfl) qs35.2
        exact y_reti hR dX14_readPrimary_38 rfl hv35 Ws35 (Nat.le_of_ble_eq_true rfl) (Nat.le_of_ble_eq_true rfl) ⟨(rKeep.tr rKeep.rf qs35.1 rfl rfl rfl rfl rfl), h⟩
    · have h := hF c
      refine z_aload_n hC (pc := 22) 2 dX14_readPrimary_22 rfl rfl ?_
      refine z_iload_n hC (pc := 23) 0 dX14_readPrimary_23 rfl rfl ?_
      obtain ⟨g74, h⟩ := h
      obtain ⟨p75, h⟩ := h
      refine y_callVi hC (pc := 24) (As := [iv v6]) (kX14_readString_g l G κ σ v6 gg g74 hwf hv6 p75) dmX14_readString zf14 rOb_0 dX14_readPrimary_24 zw3210 rfl rfl (Nat.le_of_ble_eq_true rfl) (Nat.le_of_ble_eq_true rfl) (by omega) (by omega) (Nat.le_of_ble_eq_true rfl) (kk := fun v24 s24 hv24 Ws24 qs24 => ?_)
      have h := h v24 s24 hv24 Ws24 (TPRp.keep qs24.1 rfl rfl rfl) (WNp.keep qs24.1 rfl rfl rfl rfl rfl) (CCp.keep qs24.1 rfl rfl rfl rfl rfl rfl rfl) (qs24.1.R rfl) (qs24.1.F rfl) (qs24.1.F rfl) (qs24.1.F rfl) (qs24.1.F rfl) (qs24.1.F rfl) (qs24.1.F rfl) (qs24.1.F rfl) (qs24.1.F rfl) (qs24.1.F rfl) (fun i => qs24.1.A (f := 26) (by decide) rfl) (fun i => qs24.1.A (f := 34) (by decide) rfl) (fun i => qs24.1.A (f := 35) (by decide) rfl) (fun i => qs24.1.A (f := 40) (by decide) rfl) (qs24.1.FG g0 rfl) (qs24.1.FG g0 rfl) (qs24.1.FG g0 rfl) (fun i => qs24.1.AG (f := 10) g0 (by decide) rfl) (fun i => qs24.1.AG (f := 11) g0 (by decide) rfl) qs24.2
      exact y_reti hR dX14_readPrimary_27 rfl hv24 Ws24 (Nat.le_of_ble_eq_true rfl) (Nat.le_of_ble_eq_true rfl) ⟨(rKeep.tr rKeep.rf qs24.1 rfl rfl rfl rfl rfl), h⟩
theorem kX14_readPrimary (l : Launch) (G : zG) (κ : Nat → Nat) (n : Nat) (ih : Q_rd l G κ n) (σ : rS) (gg : Nat) (g : Nat → Int → Int) (hwf : rWF σ) (hp : pre_X14_readPrimary σ gg g) (hr : rk_X14_readPrimary σ gg g ≤ n + 1) : rMi l G κ yX14_readPrimary cX14_readPrimary 5 .int (n + 1 + 100) ((n + 1) * 40 + 3600) [.ref (κ 0)] σ (fun x s => rKeep 0x6c0a3001c00 0x4100001280 0x13c00000000 0x3ee0000d7f 0 σ s ∧ post_X14_readPrimary σ gg g x s) := wX14_readPrimary l G κ n ih σ gg g hwf (post_X14_readPrimary σ gg g) (vX14_readPrimary n σ gg g hwf hp hr) 
theorem wX14_readNot (l : Launch) (G : zG) (κ : Nat → Nat) (n : Nat) (ih : Q_rd l G κ n) (σ : rS) (gg : Nat) (g : Nat → Int → Int) (hwf : rWF σ) (Q : Int → rS → Prop) (h : VC_X14_readNot n σ gg g Q) : rMi l G κ yX14_readNot cX14_readNot 3 .int (n + 1 + 100) ((n + 1) * 40 + 3600) [.ref (κ 0)] σ (fun x s => rKeep 0x6c0a3001c00 0x4100001280 0x13c00000000 0x3ee0000d7f 0 σ s ∧ Q x s) := by
  refine zMi.intro (by decide +kernel) (Nat.le_of_ble_eq_true rfl) (fun X hC hR => ?_)
  obtain ⟨g0, h⟩ := h
  refine z_aload_n hC (pc := 0) 0 dX14_readNot_0 rfl rfl ?_
  obtain ⟨p10, h⟩ := h
  refine y_callVv hC (pc := 1) (As := []) (kX14_blanks l G κ σ  hwf  p10) dmX14_blanks zf14 rOb_0 dX14_readNot_1 zw3119 rfl rfl (Nat.le_of_ble_eq_true rfl) (Nat.le_of_ble_eq_true rfl) (by omega) (by omega) (Nat.le_of_ble_eq_true rfl) (kk := fun s1 Ws1 qs1 => ?_)
  have h := h s1 Ws1 (rNMp.keep qs1.1 rfl rfl rfl rfl rfl) (TPRp.keep qs1.1 rfl rfl rfl) (WNp.keep qs1.1 rfl rfl rfl rfl rfl) (PNp.keep qs1.1 rfl rfl rfl rfl rfl) (CCp.keep qs1.1 rfl rfl rfl rfl rfl rfl rfl) (qs1.1.R rfl) (qs1.1.F rfl) (qs1.1.F rfl) (qs1.1.F rfl) (qs1.1.F rfl) (qs1.1.F rfl) (qs1.1.F rfl) (qs1.1.F rfl) (qs1.1.F rfl) (qs1.1.F rfl) (qs1.1.F rfl) (fun i => qs1.1.A (f := 26) (by decide) rfl) (qs1.1.FG g0 rfl) (qs1.1.FG g0 rfl) (qs1.1.FG g0 rfl) (qs1.1.FG g0 rfl) (qs1.1.FG g0 rfl) (fz_keep qs1.1 rfl) (RG.keep (c0 := 0) qs1.1 rfl rfl rfl rfl rfl rfl rfl rfl rfl rfl rfl rfl rfl rfl rfl rfl rfl rfl) qs1.2
  refine z_aload_n hC (pc := 4) 0 dX14_readNot_4 rfl rfl ?_
  refine y_get hC (pc := 5) zf14 rOb_0 10 (v := iv (rF s1 0 10)) dX14_readNot_5 zw2478 (rv_i (Or.inl rfl) rfl) (kk := ?_)
  have h := h (Ws1.f _ _)
  obtain ⟨hT, hF⟩ := h
  refine y_if_eq hC (pc := 8) 13 (Ws1.f _ _) dX14_readNot_8 (by decide) (fun c => ?_) (fun c => ?_)
  · have h := hT c
    refine z_aload_n hC (pc := 13) 0 dX14_readNot_13 rfl rfl ?_
    obtain ⟨p11, h⟩ := h
    refine y_callVi hC (pc := 14) (As := []) (kX14_place l G κ s1  Ws1  p11) dmX14_place zf14 rOb_0 dX14_readNot_14 zw3103 rfl rfl (Nat.le_of_ble_eq_true rfl) (Nat.le_of_ble_eq_true rfl) (by omega) (by omega) (Nat.le_of_ble_eq_true rfl) (kk := fun v14 s14 hv14 Ws14 qs14 => ?_)
    obtain ⟨es14, qs14⟩ := qs14
    have es14 := es14.symm
    subst es14
    have h := h v14 hv14 qs14
    refine z_istore_n hC (pc := 17) (lv' := [(1, iv v14), (0, .ref (κ 0))]) dX14_readNot_17 rfl (by decide) rfl ?_
    refine z_aload_n hC (pc := 18) 1 dX14_readNot_18 rfl rfl ?_
    obtain ⟨p12, h⟩ := h
    refine y_callVi hC (pc := 19) (As := []) (kX14_here l G κ s1  Ws1  p12) dmX14_here zf14 rOb_0 dX14_readNot_19 zw3099 rfl rfl (Nat.le_of_ble_eq_true rfl) (Nat.le_of_ble_eq_true rfl) (by omega) (by omega) (Nat.le_of_ble_eq_true rfl) (kk := fun v19 s19 hv19 Ws19 qs19 => ?_)
    obtain ⟨es19, qs19⟩ := qs19
    have es19 := es19.symm
    subst es19
    have h := h v19 hv19 qs19
    refine z_bipush hC (pc := 22) (v := Int32.ofInt 33) dX14_readNot_22 (by decide) ?_
    obtain ⟨hT, hF⟩ := h
    refine y_icmp_ne hC (pc := 24) 67 hv19 (r_lit rfl) dX14_readNot_24 (by decide) (fun c => ?_) (fun c => ?_)
    · have h := hT c
      refine z_aload_n hC (pc := 67) 1 dX14_readNot_67 rfl rfl ?_
      obtain ⟨p13, h⟩ := h
      refine y_callVi hC (pc := 68) (As := []) (kX14_here l G κ s1  Ws1  p13) dmX14_here zf14 rOb_0 dX14_readNot_68 zw3099 rfl rfl (Nat.le_of_ble_eq_true rfl) (Nat.le_of_ble_eq_true rfl) (by omega) (by omega) (Nat.le_of_ble_eq_true rfl) (kk := fun v68 s68 hv68 Ws68 qs68 => ?_)
      obtain ⟨es68, qs68⟩ := qs68
      have es68 := es68.symm
      subst es68
      have h := h v68 hv68 qs68
      refine z_bipush hC (pc := 71) (v := Int32.ofInt 40) dX14_readNot_71 (by decide) ?_
      obtain ⟨hT, hF⟩ := h
      refine y_icmp_ne hC (pc := 73) 122 hv68 (r_lit rfl) dX14_readNot_73 (by decide) (fun c => ?_) (fun c => ?_)
      · have h := hT c
        refine z_aload_n hC (pc := 122) 1 dX14_readNot_122 rfl rfl ?_
        refine z_bipush hC (pc := 123) (v := Int32.ofInt 58) dX14_readNot_123 (by decide) ?_
        refine z_aload_n hC (pc := 125) 1 dX14_readNot_125 rfl rfl ?_
        obtain ⟨g14, h⟩ := h
        obtain ⟨p15, h⟩ := h
        obtain ⟨p16, h⟩ := h
        refine y_callVi hC (pc := 126) (As := []) (qX14_readMember ih s1 gg g14 Ws1  p15 p16) dmX14_readMember zf14 rOb_0 dX14_readNot_126 zw3202 rfl rfl (Nat.le_of_ble_eq_true rfl) (Nat.le_of_ble_eq_true rfl) (by omega) (by omega) (Nat.le_of_ble_eq_true rfl) (kk := fun v126 s126 hv126 Ws126 qs126 => ?_)
        have h := h v126 s126 hv126 Ws126 (TPRp.keep qs126.1 rfl rfl rfl) (CCp.keep qs126.1 rfl rfl rfl rfl rfl rfl rfl) (qs126.1.R rfl) (qs126.1.F rfl) (qs126.1.F rfl) (qs126.1.F rfl) (qs126.1.F rfl) (qs126.1.F rfl) (qs126.1.F rfl) (fun i => qs126.1.A (f := 26) (by decide) rfl) qs126.2
        refine z_iconst hC (pc := 129) (v := Int32.ofInt 0) dX14_readNot_129 (by decide) ?_
        refine z_iload_n hC (pc := 130) 0 dX14_readNot_130 rfl rfl ?_
        obtain ⟨p17, h⟩ := h
        refine y_callVi hC (pc := 131) (As := [iv 58, iv v126, iv 0, iv v14]) (kX14_node_t l G κ s126 58 v126 0 v14 gg Ws126 (r_lit rfl) hv126 (r_lit rfl) hv14 p17) dmX14_node zf14 rOb_0 dX14_readNot_131 zw3170 rfl rfl (Nat.le_of_ble_eq_true rfl) (Nat.le_of_ble_eq_true rfl) (by omega) (by omega) (Nat.le_of_ble_eq_true rfl) (kk := fun v131 s131 hv131 Ws131 qs131 => ?_)
        have h := h v131 s131 hv131 Ws131 (rNMp.keep qs131.1 rfl rfl rfl rfl rfl) (TPRp.keep qs131.1 rfl rfl rfl) (WNp.keep qs131.1 rfl rfl rfl rfl rfl) (CCp.keep qs131.1 rfl rfl rfl rfl rfl rfl rfl) (qs131.1.R rfl) (qs131.1.F rfl) (qs131.1.F rfl) (qs131.1.F rfl) (qs131.1.F rfl) (qs131.1.F rfl) (qs131.1.F rfl) (qs131.1.F rfl) (qs131.1.F rfl) (qs131.1.F rfl) (qs131.1.F rfl) (qs131.1.F rfl) (fun i => qs131.1.A (f := 26) (by decide) rfl) (qs131.1.FG g0 rfl) (qs131.1.FG g0 rfl) (qs131.1.FG g0 rfl) (qs131.1.FG g0 rfl) (fz_keep qs131.1 rfl) qs131.2
        exact y_reti hR dX14_readNot_134 rfl hv131 Ws131 (Nat.le_of_ble_eq_true rfl) (Nat.le_of_ble_eq_true rfl) ⟨(rKeep.tr (rKeep.tr (rKeep.tr rKeep.rf qs1.1 rfl rfl rfl rfl rfl) qs126.1 rfl rfl rfl rfl rfl) qs131.1 rfl rfl rfl rfl rfl), h⟩
      · have h := hF c
        refine z_aload_n hC (pc := 76) 1 dX14_readNot_76 rfl rfl ?_
        refine z_iload_n hC (pc := 77) 0 dX14_readNot_77 rfl rfl ?_
        obtain ⟨p18, h⟩ := h
        refine y_callVv hC (pc := 78) (As := [iv v14]) (kX14_deeper l G κ s1 v14 Ws1 hv14 p18) dmX14_deeper zf14 rOb_0 dX14_readNot_78 zw3178 rfl rfl (Nat.le_of_ble_eq_true rfl) (Nat.le_of_ble_eq_true rfl) (by omega) (by omega) (Nat.le_of_ble_eq_true rfl) (kk := fun s78 Ws78 qs78 => ?_)
        have h := h s78 Ws78 (rNMp.keep qs78.1 rfl rfl rfl rfl rfl) (TPRp.keep qs78.1 rfl rfl rfl) (WNp.keep qs78.1 rfl rfl rfl rfl rfl) (PNp.keep qs78.1 rfl rfl rfl rfl rfl) (CCp.keep qs78.1 rfl rfl rfl rfl rfl rfl rfl) (qs78.1.R rfl) (qs78.1.F rfl) (qs78.1.F rfl) (qs78.1.F rfl) (qs78.1.F rfl) (qs78.1.F rfl) (qs78.1.F rfl) (qs78.1.F rfl) (qs78.1.F rfl) (qs78.1.F rfl) (fun i => qs78.1.A (f := 26) (by decide) rfl) (qs78.1.FG g0 rfl) (qs78.1.FG g0 rfl) (qs78.1.FG g0 rfl) (qs78.1.FG g0 rfl) (qs78.1.FG g0 rfl) (RG.keep (c0 := 0) qs78.1 rfl rfl rfl rfl rfl rfl rfl rfl rfl rfl rfl rfl rfl rfl rfl rfl rfl rfl) qs78.2
        refine z_aload_n hC (pc := 81) 1 dX14_readNot_81 rfl rfl ?_
        refine z_dup hC (pc := 82) dX14_readNot_82 rfl ?_
        refine y_get hC (pc := 83) zf14 rOb_0 29 (v := iv (rF s1 0 29)) dX14_readNot_83 zw2496 (rv_i (Or.inl rfl) ((qs78.1.F rfl).trans rfl)) (kk := ?_)
        have h := h (Ws1.f _ _)
        refine z_iconst hC (pc := 86) (v := Int32.ofInt 1) dX14_readNot_86 (by decide) ?_
        refine y_iadd hC (pc := 87) (v := ((rF s1 0 29) + 1)) dX14_readNot_87 rfl ?_
        obtain ⟨r19, h⟩ := h
        refine y_putI hC (pc := 88) zf14 rOb_0 29 (x := ((rF s1 0 29) + 1)) dX14_readNot_88 zw2496 (Or.inl rfl) rfl rfl (kk := ?_)
        have W20 := Ws78.sF (q := 0) (f := 29) (x := ((rF s1 0 29) + 1)) r19
        refine z_aload_n hC (pc := 91) 1 dX14_readNot_91 rfl rfl ?_
        refine z_bipush hC (pc := 92) (v := Int32.ofInt 59) dX14_readNot_92 (by decide) ?_
        refine z_aload_n hC (pc := 94) 1 dX14_readNot_94 rfl rfl ?_
        obtain ⟨g21, h⟩ := h
        obtain ⟨p22, h⟩ := h
        obtain ⟨p23, h⟩ := h
        refine y_callVi hC (pc := 95) (As := []) (qX14_readCond ih (sF s78 0 29 ((rF s1 0 29) + 1)) gg g21 W20  p22 p23) dmX14_readCond zf14 rOb_0 dX14_readNot_95 zw3190 rfl rfl (Nat.le_of_ble_eq_true rfl) (Nat.le_of_ble_eq_true rfl) (by omega) (by omega) (Nat.le_of_ble_eq_true rfl) (kk := fun v95 s95 hv95 Ws95 qs95 => ?_)
        have h := h v95 s95 hv95 Ws95 (TPRp.keep qs95.1 rfl rfl rfl) (CCp.keep qs95.1 rfl rfl rfl rfl rfl rfl rfl) (qs95.1.R rfl) (qs95.1.F rfl) (qs95.1.F rfl) (qs95.1.F rfl) (qs95.1.F rfl) (qs95.1.F rfl) (qs95.1.F rfl) (fun i => qs95.1.A (f := 26) (by decide) rfl) qs95.2
        refine z_iconst hC (pc := 98) (v := Int32.ofInt 0) dX14_readNot_98 (by decide) ?_
        refine z_iload_n hC (pc := 99) 0 dX14_readNot_99 rfl rfl ?_
        obtain ⟨p24, h⟩ := h
        refine y_callVi hC (pc := 100) (As := [iv 59, iv v95, iv 0, iv v14]) (kX14_node_t l G κ s95 59 v95 0 v14 gg Ws95 (r_lit rfl) hv95 (r_lit rfl) hv14 p24) dmX14_node zf14 rOb_0 dX14_readNot_100 zw3170 rfl rfl (Nat.le_of_ble_eq_true rfl) (Nat.le_of_ble_eq_true rfl) (by omega) (by omega) (Nat.le_of_ble_eq_true rfl) (kk := fun v100 s100 hv100 Ws100 qs100 => ?_)
        have h := h v100 s100 hv100 Ws100 (rNMp.keep qs100.1 rfl rfl rfl rfl rfl) (TPRp.keep qs100.1 rfl rfl rfl) (WNp.keep qs100.1 rfl rfl rfl rfl rfl) (CCp.keep qs100.1 rfl rfl rfl rfl rfl rfl rfl) (qs100.1.R rfl) (qs100.1.F rfl) (qs100.1.F rfl) (qs100.1.F rfl) (qs100.1.F rfl) (qs100.1.F rfl) (qs100.1.F rfl) (qs100.1.F rfl) (qs100.1.F rfl) (qs100.1.F rfl) (qs100.1.F rfl) (qs100.1.F rfl) (fun i => qs100.1.A (f := 26) (by decide) rfl) (qs100.1.FG g0 rfl) (qs100.1.FG g0 rfl) (qs100.1.FG g0 rfl) (qs100.1.FG g0 rfl) (fz_keep qs100.1 rfl) qs100.2
        refine z_istore_n hC (pc := 103) (lv' := [(2, iv v100), (1, iv v14), (0, .ref (κ 0))]) dX14_readNot_103 rfl (by decide) rfl ?_
        refine z_aload_n hC (pc := 104) 2 dX14_readNot_104 rfl rfl ?_
        refine z_bipush hC (pc := 105) (v := Int32.ofInt 41) dX14_readNot_105 (by decide) ?_
        obtain ⟨p25, h⟩ := h
        refine y_callVv hC (pc := 107) (As := [iv 41]) (kX14_need l G κ s100 41 Ws100 (r_lit rfl) p25) dmX14_need zf14 rOb_0 dX14_readNot_107 zw3136 rfl rfl (Nat.le_of_ble_eq_true rfl) (Nat.le_of_ble_eq_true rfl) (by omega) (by omega) (Nat.le_of_ble_eq_true rfl) (kk := fun s107 Ws107 qs107 => ?_)
        have h := h s107 Ws107 (rNMp.keep qs107.1 rfl rfl rfl rfl rfl) (TPRp.keep qs107.1 rfl rfl rfl) (WNp.keep qs107.1 rfl rfl rfl rfl rfl) (PNp.keep qs107.1 rfl rfl rfl rfl rfl) (CCp.keep qs107.1 rfl rfl rfl rfl rfl rfl rfl) (qs107.1.R rfl) (qs107.1.F rfl) (qs107.1.F rfl) (qs107.1.F rfl) (qs107.1.F rfl) (qs107.1.F rfl) (qs107.1.F rfl) (qs107.1.F rfl) (qs107.1.F rfl) (qs107.1.F rfl) (fun i => qs107.1.A (f := 26) (by decide) rfl) (qs107.1.FG g0 rfl) (qs107.1.FG g0 rfl) (qs107.1.FG g0 rfl) (qs107.1.FG g0 rfl) (qs107.1.FG g0 rfl) (RG.keep (c0 := 0) qs107.1 rfl rfl rfl rfl rfl rfl rfl rfl rfl rfl rfl rfl rfl rfl rfl rfl rfl rfl) qs107.2
        refine z_aload_n hC (pc := 110) 2 dX14_readNot_110 rfl rfl ?_
        refine z_dup hC (pc := 111) dX14_readNot_111 rfl ?_
        refine y_get hC (pc := 112) zf14 rOb_0 31 (v := iv (rF s95 0 31)) dX14_readNot_112 zw2498 (rv_i (Or.inl rfl) ((qs107.1.F rfl).trans ((qs100.1.F rfl).trans rfl))) (kk := ?_)
        have h := h (Ws95.f _ _)
        refine z_iconst hC (pc := 115) (v := Int32.ofInt 1) dX14_readNot_115 (by decide) ?_
        refine y_isub hC (pc := 116) (v := ((rF s95 0 31) - 1)) dX14_readNot_116 rfl ?_
        obtain ⟨r26, h⟩ := h
        refine y_putI hC (pc := 117) zf14 rOb_0 31 (x := ((rF s95 0 31) - 1)) dX14_readNot_117 zw2498 (Or.inl rfl) rfl rfl (kk := ?_)
        have W27 := Ws107.sF (q := 0) (f := 31) (x := ((rF s95 0 31) - 1)) r26
        refine z_iload_n hC (pc := 120) 0 dX14_readNot_120 rfl rfl ?_
        exact y_reti hR dX14_readNot_121 rfl hv100 W27 (Nat.le_of_ble_eq_true rfl) (Nat.le_of_ble_eq_true rfl) ⟨(rKeep.tr (rKeep.tr (rKeep.tr (rKeep.tr (rKeep.tr (rKeep.tr (rKeep.tr rKeep.rf qs1.1 rfl rfl rfl rfl rfl) qs78.1 rfl rfl rfl rfl rfl) (rKeep.sF0 (f := 29)) rfl rfl rfl rfl rfl) qs95.1 rfl rfl rfl rfl rfl) qs100.1 rfl rfl rfl rfl rfl) qs107.1 rfl rfl rfl rfl rfl) (rKeep.sF0 (f := 31)) rfl rfl rfl rfl rfl), h⟩
    · have h := hF c
      refine z_aload_n hC (pc := 27) 1 dX14_readNot_27 rfl rfl ?_
      refine z_iload_n hC (pc := 28) 0 dX14_readNot_28 rfl rfl ?_
      obtain ⟨p28, h⟩ := h
      refine y_callVv hC (pc := 29) (As := [iv v14]) (kX14_deeper l G κ s1 v14 Ws1 hv14 p28) dmX14_deeper zf14 rOb_0 dX14_readNot_29 zw3178 rfl rfl (Nat.le_of_ble_eq_true rfl) (Nat.le_of_ble_eq_true rfl) (by omega) (by omega) (Nat.le_of_ble_eq_true rfl) (kk := fun s29 Ws29 qs29 => ?_)
      have h := h s29 Ws29 (rNMp.keep qs29.1 rfl rfl rfl rfl rfl) (TPRp.keep qs29.1 rfl rfl rfl) (WNp.keep qs29.1 rfl rfl rfl rfl rfl) (PNp.keep qs29.1 rfl rfl rfl rfl rfl) (CCp.keep qs29.1 rfl rfl rfl rfl rfl rfl rfl) (qs29.1.R rfl) (qs29.1.F rfl) (qs29.1.F rfl) (qs29.1.F rfl) (qs29.1.F rfl) (qs29.1.F rfl) (qs29.1.F rfl) (qs29.1.F rfl) (qs29.1.F rfl) (qs29.1.F rfl) (fun i => qs29.1.A (f := 26) (by decide) rfl) (qs29.1.FG g0 rfl) (qs29.1.FG g0 rfl) (qs29.1.FG g0 rfl) (qs29.1.FG g0 rfl) (qs29.1.FG g0 rfl) (RG.keep (c0 := 0) qs29.1 rfl rfl rfl rfl rfl rfl rfl rfl rfl rfl rfl rfl rfl rfl rfl rfl rfl rfl) qs29.2
      refine z_aload_n hC (pc := 32) 1 dX14_readNot_32 rfl rfl ?_
      refine z_dup hC (pc := 33) dX14_readNot_33 rfl ?_
      refine y_get hC (pc := 34) zf14 rOb_0 29 (v := iv (rF s1 0 29)) dX14_readNot_34 zw2496 (rv_i (Or.inl rfl) ((qs29.1.F rfl).trans rfl)) (kk := ?_)
      have h := h (Ws1.f _ _)
      refine z_iconst hC (pc := 37) (v := Int32.ofInt 1) dX14_readNot_37 (by decide) ?_
      refine y_iadd hC (pc := 38) (v := ((rF s1 0 29) + 1)) dX14_readNot_38 rfl ?_
      obtain ⟨r29, h⟩ := h
      refine y_putI hC (pc := 39) zf14 rOb_0 29 (x := ((rF s1 0 29) + 1)) dX14_readNot_39 zw2496 (Or.inl rfl) rfl rfl (kk := ?_)
      have W30 := Ws29.sF (q := 0) (f := 29) (x := ((rF s1 0 29) + 1)) r29
      refine z_aload_n hC (pc := 42) 1 dX14_readNot_42 rfl rfl ?_
      refine z_bipush hC (pc := 43) (v := Int32.ofInt 57) dX14_readNot_43 (by decide) ?_
      refine z_aload_n hC (pc := 45) 1 dX14_readNot_45 rfl rfl ?_
      obtain ⟨g31, h⟩ := h
      obtain ⟨p32, h⟩ := h
      obtain ⟨p33, h⟩ := h
      refine y_callVi hC (pc := 46) (As := []) (qX14_readNot ih (sF s29 0 29 ((rF s1 0 29) + 1)) gg g31 W30  p32 p33) dmX14_readNot zf14 rOb_0 dX14_readNot_46 zw3198 rfl rfl (Nat.le_of_ble_eq_true rfl) (Nat.le_of_ble_eq_true rfl) (by omega) (by omega) (Nat.le_of_ble_eq_true rfl) (kk := fun v46 s46 hv46 Ws46 qs46 => ?_)
      have h := h v46 s46 hv46 Ws46 (TPRp.keep qs46.1 rfl rfl rfl) (CCp.keep qs46.1 rfl rfl rfl rfl rfl rfl rfl) (qs46.1.R rfl) (qs46.1.F rfl) (qs46.1.F rfl) (qs46.1.F rfl) (qs46.1.F rfl) (qs46.1.F rfl) (qs46.1.F rfl) (fun i => qs46.1.A (f := 26) (by decide) rfl) qs46.2
      refine z_iconst hC (pc := 49) (v := Int32.ofInt 0) dX14_readNot_49 (by decide) ?_
      refine z_iload_n hC (pc := 50) 0 dX14_readNot_50 rfl rfl ?_
      obtain ⟨p34, h⟩ := h
      refine y_callVi hC (pc := 51) (As := [iv 57, iv v46, iv 0, iv v14]) (kX14_node_t l G κ s46 57 v46 0 v14 gg Ws46 (r_lit rfl) hv46 (r_lit rfl) hv14 p34) dmX14_node zf14 rOb_0 dX14_readNot_51 zw3170 rfl rfl (Nat.le_of_ble_eq_true rfl) (Nat.le_of_ble_eq_true rfl) (by omega) (by omega) (Nat.le_of_ble_eq_true rfl) (kk := fun v51 s51 hv51 Ws51 qs51 => ?_)
      have h := h v51 s51 hv51 Ws51 (rNMp.keep qs51.1 rfl rfl rfl rfl rfl) (TPRp.keep qs51.1 rfl rfl rfl) (WNp.keep qs51.1 rfl rfl rfl rfl rfl) (CCp.keep qs51.1 rfl rfl rfl rfl rfl rfl rfl) (qs51.1.R rfl) (qs51.1.F rfl) (qs51.1.F rfl) (qs51.1.F rfl) (qs51.1.F rfl) (qs51.1.F rfl) (qs51.1.F rfl) (qs51.1.F rfl) (qs51.1.F rfl) (qs51.1.F rfl) (qs51.1.F rfl) (qs51.1.F rfl) (fun i => qs51.1.A (f := 26) (by decide) rfl) (qs51.1.FG g0 rfl) (qs51.1.FG g0 rfl) (qs51.1.FG g0 rfl) (qs51.1.FG g0 rfl) (fz_keep qs51.1 rfl) qs51.2
      refine z_istore_n hC (pc := 54) (lv' := [(2, iv v51), (1, iv v14), (0, .ref (κ 0))]) dX14_readNot_54 rfl (by decide) rfl ?_
      refine z_aload_n hC (pc := 55) 2 dX14_readNot_55 rfl rfl ?_
      refine z_dup hC (pc := 56) dX14_readNot_56 rfl ?_
      refine y_get hC (pc := 57) zf14 rOb_0 31 (v := iv (rF s46 0 31)) dX14_readNot_57 zw2498 (rv_i (Or.inl rfl) ((qs51.1.F rfl).trans rfl)) (kk := ?_)
      have h := h (Ws46.f _ _)
      refine z_iconst hC (pc := 60) (v := Int32.ofInt 1) dX14_readNot_60 (by decide) ?_
      refine y_isub hC (pc := 61) (v := ((rF s46 0 31) - 1)) dX14_readNot_61 rfl ?_
      obtain ⟨r35, h⟩ := h
      refine y_putI hC (pc := 62) zf14 rOb_0 31 (x := ((rF s46 0 31) - 1)) dX14_readNot_62 zw2498 (Or.inl rfl) rfl rfl (kk := ?_)
      have W36 := Ws51.sF (q := 0) (f := 31) (x := ((rF s46 0 31) - 1)) r35
      refine z_iload_n hC (pc := 65) 0 dX14_readNot_65 rfl rfl ?_
      exact y_reti hR dX14_readNot_66 rfl hv51 W36 (Nat.le_of_ble_eq_true rfl) (Nat.le_of_ble_eq_true rfl) ⟨(rKeep.tr (rKeep.tr (rKeep.tr (rKeep.tr (rKeep.tr (rKeep.tr rKeep.rf qs1.1 rfl rfl rfl rfl rfl) qs29.1 rfl rfl rfl rfl rfl) (rKeep.sF0 (f := 29)) rfl rfl rfl rfl rfl) qs46.1 rfl rfl rfl rfl rfl) qs51.1 rfl rfl rfl rfl rfl) (rKeep.sF0 (f := 31)) rfl rfl rfl rfl rfl), h⟩
  · have h := hF c
    refine z_iconst hC (pc := 11) (v := Int32.ofInt 0) dX14_readNot_11 (by decide) ?_
    exact y_reti hR dX14_readNot_12 rfl (r_lit rfl) Ws1 (Nat.le_of_ble_eq_true rfl) (Nat.le_of_ble_eq_true rfl) ⟨(rKeep.tr rKeep.rf qs1.1 rfl rfl rfl rfl rfl), h⟩
theorem kX14_readNot (l : Launch) (G : zG) (κ : Nat → Nat) (n : Nat) (ih : Q_rd l G κ n) (σ : rS) (gg : Nat) (g : Nat → Int → Int) (hwf : rWF σ) (hp : pre_X14_readNot σ gg g) (hr : rk_X14_readNot σ gg g ≤ n + 1) : rMi l G κ yX14_readNot cX14_readNot 3 .int (n + 1 + 100) ((n + 1) * 40 + 3600) [.ref (κ 0)] σ (fun x s => rKeep 0x6c0a3001c00 0x4100001280 0x13c00000000 0x3ee0000d7f 0 σ s ∧ post_X14_readNot σ gg g x s) := wX14_readNot l G κ n ih σ gg g hwf (post_X14_readNot σ gg g) (vX14_readNot n σ gg g hwf hp hr) 
