theorem wX14_readMember (l : Launch) (G : zG) (κ : Nat → Nat) (n : Nat) (ih : Q_rd l G κ n) (σ : rS) (gg : Nat) (g : Nat → Int → Int) (hwf : rWF σ) (Q : Int → rS → Prop) (h : VC_X14_readMember n σ gg g Q) (h_45 : VC_X14_readMember_45 n σ gg g Q) (h_45m : VC_X14_readMember_45m n σ gg g) : rMi l G κ yX14_readMember cX14_readMember 5 .int (n + 1 + 100) ((n + 1) * 40 + 3600) [.ref (κ 0)] σ (fun x s => rKeep 0x6c0a3001c00 0x4100001280 0x13c00000000 0x3ee0000d7f 0 σ s ∧ Q x s) := by
  refine zMi.intro (by decide +kernel) (Nat.le_of_ble_eq_true rfl) (fun X hC hR => ?_)
  obtain ⟨g0, h⟩ := h
  refine z_aload_n hC (pc := 0) 0 dX14_readMember_0 rfl rfl ?_
  obtain ⟨p10, h⟩ := h
  refine y_callVv hC (pc := 1) (As := []) (kX14_blanks l G κ σ  hwf  p10) dmX14_blanks zf14 rOb_0 dX14_readMember_1 zw3119 rfl rfl (Nat.le_of_ble_eq_true rfl) (Nat.le_of_ble_eq_true rfl) (by omega) (by omega) (Nat.le_of_ble_eq_true rfl) (kk := fun s1 Ws1 qs1 => ?_)
  have h := h s1 Ws1 (rNMp.keep qs1.1 rfl rfl rfl rfl rfl) (TPRp.keep qs1.1 rfl rfl rfl) (WNp.keep qs1.1 rfl rfl rfl rfl rfl) (PNp.keep qs1.1 rfl rfl rfl rfl rfl) (CCp.keep qs1.1 rfl rfl rfl rfl rfl rfl rfl) (qs1.1.R rfl) (qs1.1.F rfl) (qs1.1.F rfl) (qs1.1.F rfl) (qs1.1.F rfl) (qs1.1.F rfl) (qs1.1.F rfl) (qs1.1.F rfl) (qs1.1.F rfl) (qs1.1.F rfl) (qs1.1.F rfl) (qs1.1.F rfl) (fun i => qs1.1.A (f := 26) (by decide) rfl) (qs1.1.FG g0 rfl) (qs1.1.FG g0 rfl) (qs1.1.FG g0 rfl) (qs1.1.FG g0 rfl) (qs1.1.FG g0 rfl) (fz_keep qs1.1 rfl) (RG.keep (c0 := 0) qs1.1 rfl rfl rfl rfl rfl rfl rfl rfl rfl rfl rfl rfl rfl rfl rfl rfl rfl rfl) qs1.2
  refine z_aload_n hC (pc := 4) 0 dX14_readMember_4 rfl rfl ?_
  refine y_get hC (pc := 5) zf14 rOb_0 10 (v := iv (rF s1 0 10)) dX14_readMember_5 zw2478 (rv_i (Or.inl rfl) rfl) (kk := ?_)
  have h := h (Ws1.f _ _)
  obtain ⟨hT, hF⟩ := h
  refine y_if_eq hC (pc := 8) 13 (Ws1.f _ _) dX14_readMember_8 (by decide) (fun c => ?_) (fun c => ?_)
  · have h := hT c
    refine z_aload_n hC (pc := 13) 0 dX14_readMember_13 rfl rfl ?_
    refine z_bipush hC (pc := 14) (v := Int32.ofInt 41) dX14_readMember_14 (by decide) ?_
    refine z_iconst hC (pc := 16) (v := Int32.ofInt 0) dX14_readMember_16 (by decide) ?_
    refine z_iconst hC (pc := 17) (v := Int32.ofInt 0) dX14_readMember_17 (by decide) ?_
    refine z_aload_n hC (pc := 18) 0 dX14_readMember_18 rfl rfl ?_
    obtain ⟨p11, h⟩ := h
    refine y_callVi hC (pc := 19) (As := []) (kX14_place l G κ s1  Ws1  p11) dmX14_place zf14 rOb_0 dX14_readMember_19 zw3103 rfl rfl (Nat.le_of_ble_eq_true rfl) (Nat.le_of_ble_eq_true rfl) (by omega) (by omega) (Nat.le_of_ble_eq_true rfl) (kk := fun v19 s19 hv19 Ws19 qs19 => ?_)
    obtain ⟨es19, qs19⟩ := qs19
    have es19 := es19.symm
    subst es19
    have h := h v19 hv19 qs19
    obtain ⟨p12, h⟩ := h
    refine y_callVi hC (pc := 22) (As := [iv 41, iv 0, iv 0, iv v19]) (kX14_node_t l G κ s1 41 0 0 v19 gg Ws1 (r_lit rfl) (r_lit rfl) (r_lit rfl) hv19 p12) dmX14_node zf14 rOb_0 dX14_readMember_22 zw3170 rfl rfl (Nat.le_of_ble_eq_true rfl) (Nat.le_of_ble_eq_true rfl) (by omega) (by omega) (Nat.le_of_ble_eq_true rfl) (kk := fun v22 s22 hv22 Ws22 qs22 => ?_)
    have h := h v22 s22 hv22 Ws22 (rNMp.keep qs22.1 rfl rfl rfl rfl rfl) (TPRp.keep qs22.1 rfl rfl rfl) (WNp.keep qs22.1 rfl rfl rfl rfl rfl) (CCp.keep qs22.1 rfl rfl rfl rfl rfl rfl rfl) (qs22.1.R rfl) (qs22.1.F rfl) (qs22.1.F rfl) (qs22.1.F rfl) (qs22.1.F rfl) (qs22.1.F rfl) (qs22.1.F rfl) (qs22.1.F rfl) (qs22.1.F rfl) (qs22.1.F rfl) (qs22.1.F rfl) (qs22.1.F rfl) (qs22.1.F rfl) (fun i => qs22.1.A (f := 26) (by decide) rfl) (qs22.1.FG g0 rfl) (qs22.1.FG g0 rfl) (qs22.1.FG g0 rfl) (qs22.1.FG g0 rfl) (fz_keep qs22.1 rfl) qs22.2
    refine z_istore_n hC (pc := 25) (lv' := [(1, iv v22), (0, .ref (κ 0))]) dX14_readMember_25 rfl (by decide) rfl ?_
    refine z_aload_n hC (pc := 26) 1 dX14_readMember_26 rfl rfl ?_
    refine y_get hC (pc := 27) zf14 rOb_0 7 (v := .ref (κ (rR σ 7))) dX14_readMember_27 zw2475 (rv_g rfl ((qs22.1.R rfl).trans ((qs1.1.R rfl).trans rfl)) g0) (kk := ?_)
    refine y_getN hC (pc := 30) zf13 (rOb_k g0) 1 (v := .ref (κ (1000 * ((rR σ 7) + 1) + 1))) dX14_readMember_30 zw2312 (rv_c rfl) (kk := ?_)
    refine z_iload_n hC (pc := 33) 0 dX14_readMember_33 rfl rfl ?_
    refine z_aload_n hC (pc := 34) 1 dX14_readMember_34 rfl rfl ?_
    obtain ⟨g13, h⟩ := h
    obtain ⟨p14, h⟩ := h
    obtain ⟨p15, h⟩ := h
    refine y_callVi hC (pc := 35) (As := []) (qX14_readPrimary ih s22 gg g13 Ws22  p14 p15) dmX14_readPrimary zf14 rOb_0 dX14_readMember_35 zw3206 rfl rfl (Nat.le_of_ble_eq_true rfl) (Nat.le_of_ble_eq_true rfl) (by omega) (by omega) (Nat.le_of_ble_eq_true rfl) (kk := fun v35 s35 hv35 Ws35 qs35 => ?_)
    have h := h v35 s35 hv35 Ws35 (TPRp.keep qs35.1 rfl rfl rfl) (CCp.keep qs35.1 rfl rfl rfl rfl rfl rfl rfl) (qs35.1.R rfl) (qs35.1.F rfl) (qs35.1.F rfl) (qs35.1.F rfl) (qs35.1.F rfl) (qs35.1.F rfl) (qs35.1.F rfl) (fun i => qs35.1.A (f := 26) (by decide) rfl) qs35.2
    obtain ⟨b16, h⟩ := h
    refine y_iast hC (pc := 38) (rAr_k g0 rfl rfl) dX14_readMember_38 b16 (v := v35) (kk := ?_)
    have W17 := Ws35.sA (p := (1000 * ((rR σ 7) + 1) + 1)) (i := v22) (x := v35) hv35
    refine z_iconst hC (pc := 39) (v := Int32.ofInt 0) dX14_readMember_39 (by decide) ?_
    refine z_istore_n hC (pc := 40) (lv' := [(2, iv 0), (1, iv v22), (0, .ref (κ 0))]) dX14_readMember_40 rfl (by decide) rfl ?_
    refine z_aload_n hC (pc := 41) 2 dX14_readMember_41 rfl rfl ?_
    obtain ⟨p18, h⟩ := h
    refine y_callVv hC (pc := 42) (As := []) (kX14_blanks l G κ (sT s35 (rR σ 7) 1 v22 v35)  W17  p18) dmX14_blanks zf14 rOb_0 dX14_readMember_42 zw3119 rfl rfl (Nat.le_of_ble_eq_true rfl) (Nat.le_of_ble_eq_true rfl) (by omega) (by omega) (Nat.le_of_ble_eq_true rfl) (kk := fun s42 Ws42 qs42 => ?_)
    have h := h s42 Ws42 (rNMp.keep qs42.1 rfl rfl rfl rfl rfl) (TPRp.keep qs42.1 rfl rfl rfl) (WNp.keep qs42.1 rfl rfl rfl rfl rfl) (PNp.keep qs42.1 rfl rfl rfl rfl rfl) (CCp.keep qs42.1 rfl rfl rfl rfl rfl rfl rfl) (qs42.1.R rfl) (qs42.1.F rfl) (qs42.1.F rfl) (qs42.1.F rfl) (qs42.1.F rfl) (qs42.1.F rfl) (qs42.1.F rfl) (qs42.1.F rfl) (qs42.1.F rfl) (qs42.1.F rfl) (qs42.1.F rfl) (qs42.1.F rfl) (fun i => qs42.1.A (f := 26) (by decide) rfl) (qs42.1.FG g0 rfl) (qs42.1.FG g0 rfl) (qs42.1.FG g0 rfl) (qs42.1.FG g0 rfl) (qs42.1.FG g0 rfl) (fz_keep qs42.1 rfl) (RG.keep (c0 := 0) qs42.1 rfl rfl rfl rfl rfl rfl rfl rfl rfl rfl rfl rfl rfl rfl rfl rfl rfl rfl) qs42.2
    have j45 : ∀ (d45 : Nat), ∀ (s45 : rS) (y45_1 : Int) (y45_2 : Int), rWF s45 → rng y45_1 → rng y45_2 → rKeep 0x6c0a3001c00 0x4100001280 0x13c00000000 0x3ee0000d7f 0 σ s45 → inv_X14_readMember_45 σ gg g s45 y45_1 y45_2 → (mu_X14_readMember_45 σ gg g s45 y45_1 y45_2) ≤ d45 → zS X G 5 (rW G κ s45) [(0, .ref (κ 0)), (1, iv y45_1), (2, iv y45_2)] 0 0 45 [] := by
      intro d45
      induction d45 with
      | zero =>
        intro s45 y45_1 y45_2 Ws45 hy45_1 hy45_2 kJ hI hmu
        exact absurd hmu (by have := h_45m  s45 y45_1 y45_2 Ws45 hy45_1 hy45_2 (TPRp.keep kJ rfl rfl rfl) (CCp.keep kJ rfl rfl rfl rfl rfl rfl rfl) (kJ.R rfl) (kJ.F rfl) (kJ.F rfl) (kJ.F rfl) (kJ.F rfl) (kJ.F rfl) (kJ.F rfl) (fun i => kJ.A (f := 26) (by decide) rfl) hI; omega)
      | succ d45 ih45 =>
        intro s45 y45_1 y45_2 Ws45 hy45_1 hy45_2 kJ hI hmu45
        have h := h_45  s45 y45_1 y45_2 Ws45 hy45_1 hy45_2 (TPRp.keep kJ rfl rfl rfl) (CCp.keep kJ rfl rfl rfl rfl rfl rfl rfl) (kJ.R rfl) (kJ.F rfl) (kJ.F rfl) (kJ.F rfl) (kJ.F rfl) (kJ.F rfl) (kJ.F rfl) (fun i => kJ.A (f := 26) (by decide) rfl) hI
        refine z_aload_n hC (pc := 45) 0 dX14_readMember_45 rfl rfl ?_
        obtain ⟨p19, h⟩ := h
        refine y_callVi hC (pc := 46) (As := []) (kX14_here l G κ s45  Ws45  p19) dmX14_here zf14 rOb_0 dX14_readMember_46 zw3099 rfl rfl (Nat.le_of_ble_eq_true rfl) (Nat.le_of_ble_eq_true rfl) (by omega) (by omega) (Nat.le_of_ble_eq_true rfl) (kk := fun v46 s46 hv46 Ws46 qs46 => ?_)
        obtain ⟨es46, qs46⟩ := qs46
        have es46 := es46.symm
        subst es46
        have h := h v46 hv46 qs46
        refine z_bipush hC (pc := 49) (v := Int32.ofInt 46) dX14_readMember_49 (by decide) ?_
        obtain ⟨hT, hF⟩ := h
        refine y_icmp_ne hC (pc := 51) 186 hv46 (r_lit rfl) dX14_readMember_51 (by decide) (fun c => ?_) (fun c => ?_)
        · have h := hT c
          refine z_iload_n hC (pc := 186) 1 dX14_readMember_186 rfl rfl ?_
          exact y_reti hR dX14_readMember_187 rfl hy45_1 Ws45 (Nat.le_of_ble_eq_true rfl) (Nat.le_of_ble_eq_true rfl) ⟨(rKeep.tr rKeep.rf kJ rfl rfl rfl rfl rfl), h⟩
        · have h := hF c
          refine z_aload_n hC (pc := 54) 0 dX14_readMember_54 rfl rfl ?_
          refine y_get hC (pc := 55) zf14 rOb_0 10 (v := iv (rF s45 0 10)) dX14_readMember_55 zw2478 (rv_i (Or.inl rfl) rfl) (kk := ?_)
          have h := h (Ws45.f _ _)
          obtain ⟨hT, hF⟩ := h
          refine y_if_ne hC (pc := 58) 186 (Ws45.f _ _) dX14_readMember_58 (by decide) (fun c => ?_) (fun c => ?_)
          · have h := hT c
            refine z_iload_n hC (pc := 186) 1 dX14_readMember_186 rfl rfl ?_
            exact y_reti hR dX14_readMember_187 rfl hy45_1 Ws45 (Nat.le_of_ble_eq_true rfl) (Nat.le_of_ble_eq_true rfl) ⟨(rKeep.tr rKeep.rf kJ rfl rfl rfl rfl rfl), h⟩
          · have h := hF c
            refine z_aload_n hC (pc := 61) 0 dX14_readMember_61 rfl rfl ?_
            obtain ⟨p20, h⟩ := h
            refine y_callVi hC (pc := 62) (As := []) (kX14_place l G κ s45  Ws45  p20) dmX14_place zf14 rOb_0 dX14_readMember_62 zw3103 rfl rfl (Nat.le_of_ble_eq_true rfl) (Nat.le_of_ble_eq_true rfl) (by omega) (by omega) (Nat.le_of_ble_eq_true rfl) (kk := fun v62 s62 hv62 Ws62 qs62 => ?_)
            obtain ⟨es62, qs62⟩ := qs62
            have es62 := es62.symm
            subst es62
            have h := h v62 hv62 qs62
            refine z_istore_n hC (pc := 65) (lv' := [(3, iv v62), (0, .ref (κ 0)), (1, iv y45_1), (2, iv y45_2)]) dX14_readMember_65 rfl (by decide) rfl ?_
            refine z_aload_n hC (pc := 66) 1 dX14_readMember_66 rfl rfl ?_
            refine z_dup hC (pc := 67) dX14_readMember_67 rfl ?_
            refine y_get hC (pc := 68) zf14 rOb_0 29 (v := iv (rF s45 0 29)) dX14_readMember_68 zw2496 (rv_i (Or.inl rfl) rfl) (kk := ?_)
            have h := h (Ws45.f _ _)
            refine z_iconst hC (pc := 71) (v := Int32.ofInt 1) dX14_readMember_71 (by decide) ?_
            refine y_iadd hC (pc := 72) (v := ((rF s45 0 29) + 1)) dX14_readMember_72 rfl ?_
            obtain ⟨r21, h⟩ := h
            refine y_putI hC (pc := 73) zf14 rOb_0 29 (x := ((rF s45 0 29) + 1)) dX14_readMember_73 zw2496 (Or.inl rfl) rfl rfl (kk := ?_)
            have W22 := Ws45.sF (q := 0) (f := 29) (x := ((rF s45 0 29) + 1)) r21
            refine z_aload_n hC (pc := 76) 1 dX14_readMember_76 rfl rfl ?_
            obtain ⟨p23, h⟩ := h
            refine y_callVv hC (pc := 77) (As := []) (kX14_blanks l G κ (sF s45 0 29 ((rF s45 0 29) + 1))  W22  p23) dmX14_blanks zf14 rOb_0 dX14_readMember_77 zw3119 rfl rfl (Nat.le_of_ble_eq_true rfl) (Nat.le_of_ble_eq_true rfl) (by omega) (by omega) (Nat.le_of_ble_eq_true rfl) (kk := fun s77 Ws77 qs77 => ?_)
            have h := h s77 Ws77 (rNMp.keep qs77.1 rfl rfl rfl rfl rfl) (TPRp.keep qs77.1 rfl rfl rfl) (WNp.keep qs77.1 rfl rfl rfl rfl rfl) (PNp.keep qs77.1 rfl rfl rfl rfl rfl) (CCp.keep qs77.1 rfl rfl rfl rfl rfl rfl rfl) (qs77.1.R rfl) (qs77.1.F rfl) (qs77.1.F rfl) (qs77.1.F rfl) (qs77.1.F rfl) (qs77.1.F rfl) (qs77.1.F rfl) (qs77.1.F rfl) (qs77.1.F rfl) (qs77.1.F rfl) (qs77.1.F rfl) (qs77.1.F rfl) (fun i => qs77.1.A (f := 26) (by decide) rfl) (qs77.1.FG g0 rfl) (qs77.1.FG g0 rfl) (qs77.1.FG g0 rfl) (qs77.1.FG g0 rfl) (qs77.1.FG g0 rfl) (fz_keep qs77.1 rfl) (RG.keep (c0 := 0) qs77.1 rfl rfl rfl rfl rfl rfl rfl rfl rfl rfl rfl rfl rfl rfl rfl rfl rfl rfl) qs77.2
            refine z_aload_n hC (pc := 80) 1 dX14_readMember_80 rfl rfl ?_
            obtain ⟨p24, h⟩ := h
            refine y_callVi hC (pc := 81) (As := []) (kX14_here l G κ s77  Ws77  p24) dmX14_here zf14 rOb_0 dX14_readMember_81 zw3099 rfl rfl (Nat.le_of_ble_eq_true rfl) (Nat.le_of_ble_eq_true rfl) (by omega) (by omega) (Nat.le_of_ble_eq_true rfl) (kk := fun v81 s81 hv81 Ws81 qs81 => ?_)
            obtain ⟨es81, qs81⟩ := qs81
            have es81 := es81.symm
            subst es81
            have h := h v81 hv81 qs81
            refine z_bipush hC (pc := 84) (v := Int32.ofInt 40) dX14_readMember_84 (by decide) ?_
            obtain ⟨hT, hF⟩ := h
            refine y_icmp_ne hC (pc := 86) 133 hv81 (r_lit rfl) dX14_readMember_86 (by decide) (fun c => ?_) (fun c => ?_)
            · have h := hT c
              refine z_aload_n hC (pc := 133) 1 dX14_readMember_133 rfl rfl ?_
              refine z_bipush hC (pc := 134) (v := Int32.ofInt 42) dX14_readMember_134 (by decide) ?_
              refine z_aload_n hC (pc := 136) 1 dX14_readMember_136 rfl rfl ?_
              obtain ⟨p25, h⟩ := h
              refine y_callVi hC (pc := 137) (As := []) (kX14_tagName l G κ s77  Ws77  p25) dmX14_tagName zf14 rOb_0 dX14_readMember_137 zw3166 rfl rfl (Nat.le_of_ble_eq_true rfl) (Nat.le_of_ble_eq_true rfl) (by omega) (by omega) (Nat.le_of_ble_eq_true rfl) (kk := fun v137 s137 hv137 Ws137 qs137 => ?_)
              have h := h v137 s137 hv137 Ws137 (TPRp.keep qs137.1 rfl rfl rfl) (WNp.keep qs137.1 rfl rfl rfl rfl rfl) (PNp.keep qs137.1 rfl rfl rfl rfl rfl) (CCp.keep qs137.1 rfl rfl rfl rfl rfl rfl rfl) (qs137.1.R rfl) (qs137.1.F rfl) (qs137.1.F rfl) (qs137.1.F rfl) (qs137.1.F rfl) (qs137.1.F rfl) (qs137.1.F rfl) (qs137.1.F rfl) (qs137.1.F rfl) (qs137.1.F rfl) (fun i => qs137.1.A (f := 26) (by decide) rfl) (qs137.1.FG g0 rfl) (qs137.1.FG g0 rfl) (qs137.1.FG g0 rfl) (RG.keep (c0 := 0) qs137.1 rfl rfl rfl rfl rfl rfl rfl rfl rfl rfl rfl rfl rfl rfl rfl rfl rfl rfl) qs137.2
              refine z_iconst hC (pc := 140) (v := Int32.ofInt 0) dX14_readMember_140 (by decide) ?_
              refine z_iload_n hC (pc := 141) 0 dX14_readMember_141 rfl rfl ?_
              obtain ⟨p26, h⟩ := h
              refine y_callVi hC (pc := 142) (As := [iv 42, iv v137, iv 0, iv v62]) (kX14_node_t l G κ s137 42 v137 0 v62 gg Ws137 (r_lit rfl) hv137 (r_lit rfl) hv62 p26) dmX14_node zf14 rOb_0 dX14_readMember_142 zw3170 rfl rfl (Nat.le_of_ble_eq_true rfl) (Nat.le_of_ble_eq_true rfl) (by omega) (by omega) (Nat.le_of_ble_eq_true rfl) (kk := fun v142 s142 hv142 Ws142 qs142 => ?_)
              have h := h v142 s142 hv142 Ws142 (rNMp.keep qs142.1 rfl rfl rfl rfl rfl) (TPRp.keep qs142.1 rfl rfl rfl) (WNp.keep qs142.1 rfl rfl rfl rfl rfl) (CCp.keep qs142.1 rfl rfl rfl rfl rfl rfl rfl) (qs142.1.R rfl) (qs142.1.F rfl) (qs142.1.F rfl) (qs142.1.F rfl) (qs142.1.F rfl) (qs142.1.F rfl) (qs142.1.F rfl) (qs142.1.F rfl) (qs142.1.F rfl) (qs142.1.F rfl) (qs142.1.F rfl) (qs142.1.F rfl) (qs142.1.F rfl) (fun i => qs142.1.A (f := 26) (by decide) rfl) (qs142.1.FG g0 rfl) (qs142.1.FG g0 rfl) (qs142.1.FG g0 rfl) (qs142.1.FG g0 rfl) (fz_keep qs142.1 rfl) qs142.2
              refine z_istore hC (pc := 145) (lv' := [(4, iv v142), (3, iv v62), (0, .ref (κ 0)), (1, iv y45_1), (2, iv y45_2)]) dX14_readMember_145 (by decide) rfl ?_
              refine z_iload_n hC (pc := 147) 4 dX14_readMember_147 rfl rfl ?_
              obtain ⟨hT, hF⟩ := h
              refine y_if_ne hC (pc := 148) 165 hy45_2 dX14_readMember_148 (by decide) (fun c => ?_) (fun c => ?_)
              · have h := hT c
                refine z_aload_n hC (pc := 165) 2 dX14_readMember_165 rfl rfl ?_
                refine y_get hC (pc := 166) zf14 rOb_0 7 (v := .ref (κ (rR σ 7))) dX14_readMember_166 zw2475 (rv_g rfl ((qs142.1.R rfl).trans ((qs137.1.R rfl).trans ((qs77.1.R rfl).trans (kJ.R rfl)))) g0) (kk := ?_)
                refine y_getN hC (pc := 169) zf13 (rOb_k g0) 5 (v := .ref (κ (1000 * ((rR σ 7) + 1) + 5))) dX14_readMember_169 zw2320 (rv_c rfl) (kk := ?_)
                refine z_iload_n hC (pc := 172) 4 dX14_readMember_172 rfl rfl ?_
                refine z_iload hC (pc := 173) 0 dX14_readMember_173 rfl ?_
                obtain ⟨b27, h⟩ := h
                refine y_iast hC (pc := 175) (rAr_k g0 rfl rfl) dX14_readMember_175 b27 (v := v142) (kk := ?_)
                have W28 := Ws142.sA (p := (1000 * ((rR σ 7) + 1) + 5)) (i := y45_2) (x := v142) hv142
                refine z_iload hC (pc := 176) 0 dX14_readMember_176 rfl ?_
                refine z_istore_n hC (pc := 178) (lv' := [(2, iv v142), (4, iv v142), (3, iv v62), (0, .ref (κ 0)), (1, iv y45_1)]) dX14_readMember_178 rfl (by decide) rfl ?_
                refine z_aload_n hC (pc := 179) 3 dX14_readMember_179 rfl rfl ?_
                obtain ⟨p29, h⟩ := h
                refine y_callVv hC (pc := 180) (As := []) (kX14_blanks l G κ (sT s142 (rR σ 7) 5 y45_2 v142)  W28  p29) dmX14_blanks zf14 rOb_0 dX14_readMember_180 zw3119 rfl rfl (Nat.le_of_ble_eq_true rfl) (Nat.le_of_ble_eq_true rfl) (by omega) (by omega) (Nat.le_of_ble_eq_true rfl) (kk := fun s180 Ws180 qs180 => ?_)
                have h := h s180 Ws180 (rNMp.keep qs180.1 rfl rfl rfl rfl rfl) (TPRp.keep qs180.1 rfl rfl rfl) (WNp.keep qs180.1 rfl rfl rfl rfl rfl) (PNp.keep qs180.1 rfl rfl rfl rfl rfl) (CCp.keep qs180.1 rfl rfl rfl rfl rfl rfl rfl) (qs180.1.R rfl) (qs180.1.F rfl) (qs180.1.F rfl) (qs180.1.F rfl) (qs180.1.F rfl) (qs180.1.F rfl) (qs180.1.F rfl) (qs180.1.F rfl) (qs180.1.F rfl) (qs180.1.F rfl) (qs180.1.F rfl) (qs180.1.F rfl) (fun i => qs180.1.A (f := 26) (by decide) rfl) (qs180.1.FG g0 rfl) (qs180.1.FG g0 rfl) (qs180.1.FG g0 rfl) (qs180.1.FG g0 rfl) (qs180.1.FG g0 rfl) (fz_keep qs180.1 rfl) (RG.keep (c0 := 0) qs180.1 rfl rfl rfl rfl rfl rfl rfl rfl rfl rfl rfl rfl rfl rfl rfl rfl rfl rfl) qs180.2
                refine z_goto hC (pc := 183) 45 dX14_readMember_183 (by decide) ?_
                refine z_lvs [3, 4, 0] rfl ?_
                obtain ⟨hI, hm⟩ := h
                exact ih45 s180 y45_1 v142 Ws180 hy45_1 hv142 (rKeep.tr (rKeep.tr (rKeep.tr (rKeep.tr (rKeep.tr (rKeep.tr (rKeep.tr rKeep.rf kJ rfl rfl rfl rfl rfl) (rKeep.sF0 (f := 29)) rfl rfl rfl rfl rfl) qs77.1 rfl rfl rfl rfl rfl) qs137.1 rfl rfl rfl rfl rfl) qs142.1 rfl rfl rfl rfl rfl) (rKeep.sAk (f := 5) g0 (by decide)) rfl rfl rfl rfl rfl) qs180.1 rfl rfl rfl rfl rfl) hI (by omega)
              · have h := hF c
                refine z_aload_n hC (pc := 151) 2 dX14_readMember_151 rfl rfl ?_
                refine y_get hC (pc := 152) zf14 rOb_0 7 (v := .ref (κ (rR σ 7))) dX14_readMember_152 zw2475 (rv_g rfl ((qs142.1.R rfl).trans ((qs137.1.R rfl).trans ((qs77.1.R rfl).trans (kJ.R rfl)))) g0) (kk := ?_)
                refine y_getN hC (pc := 155) zf13 (rOb_k g0) 2 (v := .ref (κ (1000 * ((rR σ 7) + 1) + 2))) dX14_readMember_155 zw2314 (rv_c rfl) (kk := ?_)
                refine z_iload_n hC (pc := 158) 3 dX14_readMember_158 rfl rfl ?_
                refine z_iload hC (pc := 159) 0 dX14_readMember_159 rfl ?_
                obtain ⟨b30, h⟩ := h
                refine y_iast hC (pc := 161) (rAr_k g0 rfl rfl) dX14_readMember_161 b30 (v := v142) (kk := ?_)
                have W31 := Ws142.sA (p := (1000 * ((rR σ 7) + 1) + 2)) (i := y45_1) (x := v142) hv142
                refine z_goto hC (pc := 162) 176 dX14_readMember_162 (by decide) ?_
                refine z_iload hC (pc := 176) 0 dX14_readMember_176 rfl ?_
                refine z_istore_n hC (pc := 178) (lv' := [(2, iv v142), (4, iv v142), (3, iv v62), (0, .ref (κ 0)), (1, iv y45_1)]) dX14_readMember_178 rfl (by decide) rfl ?_
                refine z_aload_n hC (pc := 179) 3 dX14_readMember_179 rfl rfl ?_
                obtain ⟨p32, h⟩ := h
                refine y_callVv hC (pc := 180) (As := []) (kX14_blanks l G κ (sT s142 (rR σ 7) 2 y45_1 v142)  W31  p32) dmX14_blanks zf14 rOb_0 dX14_readMember_180 zw3119 rfl rfl (Nat.le_of_ble_eq_true rfl) (Nat.le_of_ble_eq_true rfl) (by omega) (by omega) (Nat.le_of_ble_eq_true rfl) (kk := fun s180 Ws180 qs180 => ?_)
                have h := h s180 Ws180 (rNMp.keep qs180.1 rfl rfl rfl rfl rfl) (TPRp.keep qs180.1 rfl rfl rfl) (WNp.keep qs180.1 rfl rfl rfl rfl rfl) (PNp.keep qs180.1 rfl rfl rfl rfl rfl) (CCp.keep qs180.1 rfl rfl rfl rfl rfl rfl rfl) (qs180.1.R rfl) (qs180.1.F rfl) (qs180.1.F rfl) (qs180.1.F rfl) (qs180.1.F rfl) (qs180.1.F rfl) (qs180.1.F rfl) (qs180.1.F rfl) (qs180.1.F rfl) (qs180.1.F rfl) (qs180.1.F rfl) (qs180.1.F rfl) (fun i => qs180.1.A (f := 26) (by decide) rfl) (qs180.1.FG g0 rfl) (qs180.1.FG g0 rfl) (qs180.1.FG g0 rfl) (qs180.1.FG g0 rfl) (qs180.1.FG g0 rfl) (fz_keep qs180.1 rfl) (RG.keep (c0 := 0) qs180.1 rfl rfl rfl rfl rfl rfl rfl rfl rfl rfl rfl rfl rfl rfl rfl rfl rfl rfl) qs180.2
                refine z_goto hC (pc := 183) 45 dX14_readMember_183 (by decide) ?_
                refine z_lvs [3, 4, 0] rfl ?_
                obtain ⟨hI, hm⟩ := h
                exact ih45 s180 y45_1 v142 Ws180 hy45_1 hv142 (rKeep.tr (rKeep.tr (rKeep.tr (rKeep.tr (rKeep.tr (rKeep.tr (rKeep.tr rKeep.rf kJ rfl rfl rfl rfl rfl) (rKeep.sF0 (f := 29)) rfl rfl rfl rfl rfl) qs77.1 rfl rfl rfl rfl rfl) qs137.1 rfl rfl rfl rfl rfl) qs142.1 rfl rfl rfl rfl rfl) (rKeep.sAk (f := 2) g0 (by decide)) rfl rfl rfl rfl rfl) qs180.1 rfl rfl rfl rfl rfl) hI (by omega)
            · have h := hF c
              refine z_aload_n hC (pc := 89) 1 dX14_readMember_89 rfl rfl ?_
              refine z_dup hC (pc := 90) dX14_readMember_90 rfl ?_
              refine y_get hC (pc := 91) zf14 rOb_0 29 (v := iv (rF s77 0 29)) dX14_readMember_91 zw2496 (rv_i (Or.inl rfl) rfl) (kk := ?_)
              have h := h (Ws77.f _ _)
              refine z_iconst hC (pc := 94) (v := Int32.ofInt 1) dX14_readMember_94 (by decide) ?_
              refine y_iadd hC (pc := 95) (v := ((rF s77 0 29) + 1)) dX14_readMember_95 rfl ?_
              obtain ⟨r33, h⟩ := h
              refine y_putI hC (pc := 96) zf14 rOb_0 29 (x := ((rF s77 0 29) + 1)) dX14_readMember_96 zw2496 (Or.inl rfl) rfl rfl (kk := ?_)
              have W34 := Ws77.sF (q := 0) (f := 29) (x := ((rF s77 0 29) + 1)) r33
              refine z_aload_n hC (pc := 99) 1 dX14_readMember_99 rfl rfl ?_
              refine z_bipush hC (pc := 100) (v := Int32.ofInt 43) dX14_readMember_100 (by decide) ?_
              refine z_iconst hC (pc := 102) (v := Int32.ofInt 0) dX14_readMember_102 (by decide) ?_
              refine z_iconst hC (pc := 103) (v := Int32.ofInt 0) dX14_readMember_103 (by decide) ?_
              refine z_iload_n hC (pc := 104) 0 dX14_readMember_104 rfl rfl ?_
              obtain ⟨p35, h⟩ := h
              refine y_callVi hC (pc := 105) (As := [iv 43, iv 0, iv 0, iv v62]) (kX14_node_t l G κ (sF s77 0 29 ((rF s77 0 29) + 1)) 43 0 0 v62 gg W34 (r_lit rfl) (r_lit rfl) (r_lit rfl) hv62 p35) dmX14_node zf14 rOb_0 dX14_readMember_105 zw3170 rfl rfl (Nat.le_of_ble_eq_true rfl) (Nat.le_of_ble_eq_true rfl) (by omega) (by omega) (Nat.le_of_ble_eq_true rfl) (kk := fun v105 s105 hv105 Ws105 qs105 => ?_)
              have h := h v105 s105 hv105 Ws105 (rNMp.keep qs105.1 rfl rfl rfl rfl rfl) (TPRp.keep qs105.1 rfl rfl rfl) (WNp.keep qs105.1 rfl rfl rfl rfl rfl) (CCp.keep qs105.1 rfl rfl rfl rfl rfl rfl rfl) (qs105.1.R rfl) (qs105.1.F rfl) (qs105.1.F rfl) (qs105.1.F rfl) (qs105.1.F rfl) (qs105.1.F rfl) (qs105.1.F rfl) (qs105.1.F rfl) (qs105.1.F rfl) (qs105.1.F rfl) (qs105.1.F rfl) (qs105.1.F rfl) (qs105.1.F rfl) (fun i => qs105.1.A (f := 26) (by decide) rfl) (qs105.1.FG g0 rfl) (qs105.1.FG g0 rfl) (qs105.1.FG g0 rfl) (qs105.1.FG g0 rfl) (fz_keep qs105.1 rfl) qs105.2
              refine z_istore hC (pc := 108) (lv' := [(4, iv v105), (3, iv v62), (0, .ref (κ 0)), (1, iv y45_1), (2, iv y45_2)]) dX14_readMember_108 (by decide) rfl ?_
              refine z_aload_n hC (pc := 110) 2 dX14_readMember_110 rfl rfl ?_
              refine y_get hC (pc := 111) zf14 rOb_0 7 (v := .ref (κ (rR σ 7))) dX14_readMember_111 zw2475 (rv_g rfl ((qs105.1.R rfl).trans ((qs77.1.R rfl).trans (kJ.R rfl))) g0) (kk := ?_)
              refine y_getN hC (pc := 114) zf13 (rOb_k g0) 1 (v := .ref (κ (1000 * ((rR σ 7) + 1) + 1))) dX14_readMember_114 zw2312 (rv_c rfl) (kk := ?_)
              refine z_iload hC (pc := 117) 0 dX14_readMember_117 rfl ?_
              refine z_aload_n hC (pc := 119) 2 dX14_readMember_119 rfl rfl ?_
              obtain ⟨g36, h⟩ := h
              obtain ⟨p37, h⟩ := h
              obtain ⟨p38, h⟩ := h
              refine y_callVi hC (pc := 120) (As := []) (qX14_readArg ih s105 gg g36 Ws105  p37 p38) dmX14_readArg zf14 rOb_0 dX14_readMember_120 zw3234 rfl rfl (Nat.le_of_ble_eq_true rfl) (Nat.le_of_ble_eq_true rfl) (by omega) (by omega) (Nat.le_of_ble_eq_true rfl) (kk := fun v120 s120 hv120 Ws120 qs120 => ?_)
              have h := h v120 s120 hv120 Ws120 (TPRp.keep qs120.1 rfl rfl rfl) (CCp.keep qs120.1 rfl rfl rfl rfl rfl rfl rfl) (qs120.1.R rfl) (qs120.1.F rfl) (qs120.1.F rfl) (qs120.1.F rfl) (qs120.1.F rfl) (qs120.1.F rfl) (qs120.1.F rfl) (fun i => qs120.1.A (f := 26) (by decide) rfl) qs120.2
              obtain ⟨b39, h⟩ := h
              refine y_iast hC (pc := 123) (rAr_k g0 rfl rfl) dX14_readMember_123 b39 (v := v120) (kk := ?_)
              have W40 := Ws120.sA (p := (1000 * ((rR σ 7) + 1) + 1)) (i := v105) (x := v120) hv120
              refine z_aload_n hC (pc := 124) 2 dX14_readMember_124 rfl rfl ?_
              refine z_bipush hC (pc := 125) (v := Int32.ofInt 41) dX14_readMember_125 (by decide) ?_
              obtain ⟨p41, h⟩ := h
              refine y_callVv hC (pc := 127) (As := [iv 41]) (kX14_need l G κ (sT s120 (rR σ 7) 1 v105 v120) 41 W40 (r_lit rfl) p41) dmX14_need zf14 rOb_0 dX14_readMember_127 zw3136 rfl rfl (Nat.le_of_ble_eq_true rfl) (Nat.le_of_ble_eq_true rfl) (by omega) (by omega) (Nat.le_of_ble_eq_true rfl) (kk := fun s127 Ws127 qs127 => ?_)
              have h := h s127 Ws127 (rNMp.keep qs127.1 rfl rfl rfl rfl rfl) (TPRp.keep qs127.1 rfl rfl rfl) (WNp.keep qs127.1 rfl rfl rfl rfl rfl) (PNp.keep qs127.1 rfl rfl rfl rfl rfl) (CCp.keep qs127.1 rfl rfl rfl rfl rfl rfl rfl) (qs127.1.R rfl) (qs127.1.F rfl) (qs127.1.F rfl) (qs127.1.F rfl) (qs127.1.F rfl) (qs127.1.F rfl) (qs127.1.F rfl) (qs127.1.F rfl) (qs127.1.F rfl) (qs127.1.F rfl) (qs127.1.F rfl) (fun i => qs127.1.A (f := 26) (by decide) rfl) (qs127.1.FG g0 rfl) (qs127.1.FG g0 rfl) (qs127.1.FG g0 rfl) (qs127.1.FG g0 rfl) (qs127.1.FG g0 rfl) (RG.keep (c0 := 0) qs127.1 rfl rfl rfl rfl rfl rfl rfl rfl rfl rfl rfl rfl rfl rfl rfl rfl rfl rfl) qs127.2
              refine z_goto hC (pc := 130) 147 dX14_readMember_130 (by decide) ?_
              refine z_iload_n hC (pc := 147) 4 dX14_readMember_147 rfl rfl ?_
              obtain ⟨hT, hF⟩ := h
              refine y_if_ne hC (pc := 148) 165 hy45_2 dX14_readMember_148 (by decide) (fun c => ?_) (fun c => ?_)
              · have h := hT c
                refine z_aload_n hC (pc := 165) 2 dX14_readMember_165 rfl rfl ?_
                refine y_get hC (pc := 166) zf14 rOb_0 7 (v := .ref (κ (rR σ 7))) dX14_readMember_166 zw2475 (rv_g rfl ((qs127.1.R rfl).trans ((qs120.1.R rfl).trans ((qs105.1.R rfl).trans ((qs77.1.R rfl).trans (kJ.R rfl))))) g0) (kk := ?_)
                refine y_getN hC (pc := 169) zf13 (rOb_k g0) 5 (v := .ref (κ (1000 * ((rR σ 7) + 1) + 5))) dX14_readMember_169 zw2320 (rv_c rfl) (kk := ?_)
                refine z_iload_n hC (pc := 172) 4 dX14_readMember_172 rfl rfl ?_
                refine z_iload hC (pc := 173) 0 dX14_readMember_173 rfl ?_
                obtain ⟨b42, h⟩ := h
                refine y_iast hC (pc := 175) (rAr_k g0 rfl rfl) dX14_readMember_175 b42 (v := v105) (kk := ?_)
                have W43 := Ws127.sA (p := (1000 * ((rR σ 7) + 1) + 5)) (i := y45_2) (x := v105) hv105
                refine z_iload hC (pc := 176) 0 dX14_readMember_176 rfl ?_
                refine z_istore_n hC (pc := 178) (lv' := [(2, iv v105), (4, iv v105), (3, iv v62), (0, .ref (κ 0)), (1, iv y45_1)]) dX14_readMember_178 rfl (by decide) rfl ?_
                refine z_aload_n hC (pc := 179) 3 dX14_readMember_179 rfl rfl ?_
                obtain ⟨p44, h⟩ := h
                refine y_callVv hC (pc := 180) (As := []) (kX14_blanks l G κ (sT s127 (rR σ 7) 5 y45_2 v105)  W43  p44) dmX14_blanks zf14 rOb_0 dX14_readMember_180 zw3119 rfl rfl (Nat.le_of_ble_eq_true rfl) (Nat.le_of_ble_eq_true rfl) (by omega) (by omega) (Nat.le_of_ble_eq_true rfl) (kk := fun s180 Ws180 qs180 => ?_)
                have h := h s180 Ws180 (rNMp.keep qs180.1 rfl rfl rfl rfl rfl) (TPRp.keep qs180.1 rfl rfl rfl) (WNp.keep qs180.1 rfl rfl rfl rfl rfl) (PNp.keep qs180.1 rfl rfl rfl rfl rfl) (CCp.keep qs180.1 rfl rfl rfl rfl rfl rfl rfl) (qs180.1.R rfl) (qs180.1.F rfl) (qs180.1.F rfl) (qs180.1.F rfl) (qs180.1.F rfl) (qs180.1.F rfl) (qs180.1.F rfl) (qs180.1.F rfl) (qs180.1.F rfl) (qs180.1.F rfl) (qs180.1.F rfl) (qs180.1.F rfl) (fun i => qs180.1.A (f := 26) (by decide) rfl) (qs180.1.FG g0 rfl) (qs180.1.FG g0 rfl) (qs180.1.FG g0 rfl) (qs180.1.FG g0 rfl) (qs180.1.FG g0 rfl) (fz_keep qs180.1 rfl) (RG.keep (c0 := 0) qs180.1 rfl rfl rfl rfl rfl rfl rfl rfl rfl rfl rfl rfl rfl rfl rfl rfl rfl rfl) qs180.2
                refine z_goto hC (pc := 183) 45 dX14_readMember_183 (by decide) ?_
                refine z_lvs [3, 4, 0] rfl ?_
                obtain ⟨hI, hm⟩ := h
                exact ih45 s180 y45_1 v105 Ws180 hy45_1 hv105 (rKeep.tr (rKeep.tr (rKeep.tr (rKeep.tr (rKeep.tr (rKeep.tr (rKeep.tr (rKeep.tr (rKeep.tr (rKeep.tr rKeep.rf kJ rfl rfl rfl rfl rfl) (rKeep.sF0 (f := 29)) rfl rfl rfl rfl rfl) qs77.1 rfl rfl rfl rfl rfl) (rKeep.sF0 (f := 29)) rfl rfl rfl rfl rfl) qs105.1 rfl rfl rfl rfl rfl) qs120.1 rfl rfl rfl rfl rfl) (rKeep.sAk (f := 1) g0 (by decide)) rfl rfl rfl rfl rfl) qs127.1 rfl rfl rfl rfl rfl) (rKeep.sAk (f := 5) g0 (by decide)) rfl rfl rfl rfl rfl) qs180.1 rfl rfl rfl rfl rfl) hI (by omega)
              · have h := hF c
                refine z_aload_n hC (pc := 151) 2 dX14_readMember_151 rfl rfl ?_
                refine y_get hC (pc := 152) zf14 rOb_0 7 (v := .ref (κ (rR σ 7))) dX14_readMember_152 zw2475 (rv_g rfl ((qs127.1.R rfl).trans ((qs120.1.R rfl).trans ((qs105.1.R rfl).trans ((qs77.1.R rfl).trans (kJ.R rfl))))) g0) (kk := ?_)
                refine y_getN hC (pc := 155) zf13 (rOb_k g0) 2 (v := .ref (κ (1000 * ((rR σ 7) + 1) + 2))) dX14_readMember_155 zw2314 (rv_c rfl) (kk := ?_)
                refine z_iload_n hC (pc := 158) 3 dX14_readMember_158 rfl rfl ?_
                refine z_iload hC (pc := 159) 0 dX14_readMember_159 rfl ?_
                obtain ⟨b45, h⟩ := h
                refine y_iast hC (pc := 161) (rAr_k g0 rfl rfl) dX14_readMember_161 b45 (v := v105) (kk := ?_)
                have W46 := Ws127.sA (p := (1000 * ((rR σ 7) + 1) + 2)) (i := y45_1) (x := v105) hv105
                refine z_goto hC (pc := 162) 176 dX14_readMember_162 (by decide) ?_
                refine z_iload hC (pc := 176) 0 dX14_readMember_176 rfl ?_
                refine z_istore_n hC (pc := 178) (lv' := [(2, iv v105), (4, iv v105), (3, iv v62), (0, .ref (κ 0)), (1, iv y45_1)]) dX14_readMember_178 rfl (by decide) rfl ?_
                refine z_aload_n hC (pc := 179) 3 dX14_readMember_179 rfl rfl ?_
                obtain ⟨p47, h⟩ := h
                refine y_callVv hC (pc := 180) (As := []) (kX14_blanks l G κ (sT s127 (rR σ 7) 2 y45_1 v105)  W46  p47) dmX14_blanks zf14 rOb_0 dX14_readMember_180 zw3119 rfl rfl (Nat.le_of_ble_eq_true rfl) (Nat.le_of_ble_eq_true rfl) (by omega) (by omega) (Nat.le_of_ble_eq_true rfl) (kk := fun s180 Ws180 qs180 => ?_)
                have h := h s180 Ws180 (rNMp.keep qs180.1 rfl rfl rfl rfl rfl) (TPRp.keep qs180.1 rfl rfl rfl) (WNp.keep qs180.1 rfl rfl rfl rfl rfl) (PNp.keep qs180.1 rfl rfl rfl rfl rfl) (CCp.keep qs180.1 rfl rfl rfl rfl rfl rfl rfl) (qs180.1.R rfl) (qs180.1.F rfl) (qs180.1.F rfl) (qs180.1.F rfl) (qs180.1.F rfl) (qs180.1.F rfl) (qs180.1.F rfl) (qs180.1.F rfl) (qs180.1.F rfl) (qs180.1.F rfl) (qs180.1.F rfl) (qs180.1.F rfl) (fun i => qs180.1.A (f := 26) (by decide) rfl) (qs180.1.FG g0 rfl) (qs180.1.FG g0 rfl) (qs180.1.FG g0 rfl) (qs180.1.FG g0 rfl) (qs180.1.FG g0 rfl) (fz_keep qs180.1 rfl) (RG.keep (c0 := 0) qs180.1 rfl rfl rfl rfl rfl rfl rfl rfl rfl rfl rfl rfl rfl rfl rfl rfl rfl rfl) qs180.2
                refine z_goto hC (pc := 183) 45 dX14_readMember_183 (by decide) ?_
                refine z_lvs [3, 4, 0] rfl ?_
                obtain ⟨hI, hm⟩ := h
                exact ih45 s180 y45_1 v105 Ws180 hy45_1 hv105 (rKeep.tr (rKeep.tr (rKeep.tr (rKeep.tr (rKeep.tr (rKeep.tr (rKeep.tr (rKeep.tr (rKeep.tr (rKeep.tr rKeep.rf kJ rfl rfl rfl rfl rfl) (rKeep.sF0 (f := 29)) rfl rfl rfl rfl rfl) qs77.1 rfl rfl rfl rfl rfl) (rKeep.sF0 (f := 29)) rfl rfl rfl rfl rfl) qs105.1 rfl rfl rfl rfl rfl) qs120.1 rfl rfl rfl rfl rfl) (rKeep.sAk (f := 1) g0 (by decide)) rfl rfl rfl rfl rfl) qs127.1 rfl rfl rfl rfl rfl) (rKeep.sAk (f := 2) g0 (by decide)) rfl rfl rfl rfl rfl) qs180.1 rfl rfl rfl rfl rfl) hI (by omega)
    refine z_lvs [2, 1, 0] rfl ?_
    exact j45 _ s42 v22 0 Ws42 hv22 (r_lit rfl) (rKeep.tr (rKeep.tr (rKeep.tr (rKeep.tr (rKeep.tr rKeep.rf qs1.1 rfl rfl rfl rfl rfl) qs22.1 rfl rfl rfl rfl rfl) qs35.1 rfl rfl rfl rfl rfl) (rKeep.sAk (f := 1) g0 (by decide)) rfl rfl rfl rfl rfl) qs42.1 rfl rfl rfl rfl rfl) h (Nat.le_refl _)
  · have h := hF c
    refine z_iconst hC (pc := 11) (v := Int32.ofInt 0) dX14_readMember_11 (by decide) ?_
    exact y_reti hR dX14_readMember_12 rfl (r_lit rfl) Ws1 (Nat.le_of_ble_eq_true rfl) (Nat.le_of_ble_eq_true rfl) ⟨(rKeep.tr rKeep.rf qs1.1 rfl rfl rfl rfl rfl), h⟩
theorem kX14_readMember (l : Launch) (G : zG) (κ : Nat → Nat) (n : Nat) (ih : Q_rd l G κ n) (σ : rS) (gg : Nat) (g : Nat → Int → Int) (hwf : rWF σ) (hp : pre_X14_readMember σ gg g) (hr : rk_X14_readMember σ gg g ≤ n + 1) : rMi l G κ yX14_readMember cX14_readMember 5 .int (n + 1 + 100) ((n + 1) * 40 + 3600) [.ref (κ 0)] σ (fun x s => rKeep 0x6c0a3001c00 0x4100001280 0x13c00000000 0x3ee0000d7f 0 σ s ∧ post_X14_readMember σ gg g x s) := wX14_readMember l G κ n ih σ gg g hwf (post_X14_readMember σ gg g) (vX14_readMember n σ gg g hwf hp hr) (vX14_readMember_45 n σ gg g hwf hp hr) (vX14_readMember_45m n σ gg g hwf hp hr)
theorem wX14_readArg (l : Launch) (G : zG) (κ : Nat → Nat) (n : Nat) (ih : Q_rd l G κ n) (σ : rS) (gg : Nat) (g : Nat → Int → Int) (hwf : rWF σ) (Q : Int → rS → Prop) (h : VC_X14_readArg n σ gg g Q) (h_55 : VC_X14_readArg_55 n σ gg g Q) (h_55m : VC_X14_readArg_55m n σ gg g) : rMi l G κ yX14_readArg cX14_readArg 4 .int (n + 1 + 100) ((n + 1) * 40 + 3600) [.ref (κ 0)] σ (fun x s => rKeep 0x6c0a3001c00 0x4100001280 0x13c00000000 0x3ee0000d7f 0 σ s ∧ Q x s) := by
  refine zMi.intro (by decide +kernel) (Nat.le_of_ble_eq_true rfl) (fun X hC hR => ?_)
  obtain ⟨g0, h⟩ := h
  refine z_aload_n hC (pc := 0) 0 dX14_readArg_0 rfl rfl ?_
  obtain ⟨p10, h⟩ := h
  refine y_callVv hC (pc := 1) (As := []) (kX14_blanks l G κ σ  hwf  p10) dmX14_blanks zf14 rOb_0 dX14_readArg_1 zw3119 rfl rfl (Nat.le_of_ble_eq_true rfl) (Nat.le_of_ble_eq_true rfl) (by omega) (by omega) (Nat.le_of_ble_eq_true rfl) (kk := fun s1 Ws1 qs1 => ?_)
  have h := h s1 Ws1 (rNMp.keep qs1.1 rfl rfl rfl rfl rfl) (TPRp.keep qs1.1 rfl rfl rfl) (WNp.keep qs1.1 rfl rfl rfl rfl rfl) (PNp.keep qs1.1 rfl rfl rfl rfl rfl) (CCp.keep qs1.1 rfl rfl rfl rfl rfl rfl rfl) (qs1.1.R rfl) (qs1.1.F rfl) (qs1.1.F rfl) (qs1.1.F rfl) (qs1.1.F rfl) (qs1.1.F rfl) (qs1.1.F rfl) (qs1.1.F rfl) (qs1.1.F rfl) (qs1.1.F rfl) (qs1.1.F rfl) (fun i => qs1.1.A (f := 26) (by decide) rfl) (qs1.1.FG g0 rfl) (qs1.1.FG g0 rfl) (qs1.1.FG g0 rfl) (qs1.1.FG g0 rfl) (qs1.1.FG g0 rfl) (fz_keep qs1.1 rfl) (RG.keep (c0 := 0) qs1.1 rfl rfl rfl rfl rfl rfl rfl rfl rfl rfl rfl rfl rfl rfl rfl rfl rfl rfl) qs1.2
  refine z_aload_n hC (pc := 4) 0 dX14_readArg_4 rfl rfl ?_
  refine y_get hC (pc := 5) zf14 rOb_0 10 (v := iv (rF s1 0 10)) dX14_readArg_5 zw2478 (rv_i (Or.inl rfl) rfl) (kk := ?_)
  have h := h (Ws1.f _ _)
  obtain ⟨hT, hF⟩ := h
  refine y_if_eq hC (pc := 8) 13 (Ws1.f _ _) dX14_readArg_8 (by decide) (fun c => ?_) (fun c => ?_)
  · have h := hT c
    refine z_aload_n hC (pc := 13) 0 dX14_readArg_13 rfl rfl ?_
    refine y_get hC (pc := 14) zf14 rOb_0 31 (v := iv (rF σ 0 31)) dX14_readArg_14 zw2498 (rv_i (Or.inl rfl) ((qs1.1.F rfl).trans rfl)) (kk := ?_)
    have h := h (hwf.f _ _)
    refine z_bipush hC (pc := 17) (v := Int32.ofInt 20) dX14_readArg_17 (by decide) ?_
    obtain ⟨hT, hF⟩ := h
    refine y_icmp_ne hC (pc := 19) 34 (hwf.f _ _) (r_lit rfl) dX14_readArg_19 (by decide) (fun c => ?_) (fun c => ?_)
    · have h := hT c
      refine z_aload_n hC (pc := 34) 0 dX14_readArg_34 rfl rfl ?_
      refine z_dup hC (pc := 35) dX14_readArg_35 rfl ?_
      refine y_get hC (pc := 36) zf14 rOb_0 31 (v := iv (rF σ 0 31)) dX14_readArg_36 zw2498 (rv_i (Or.inl rfl) ((qs1.1.F rfl).trans rfl)) (kk := ?_)
      refine z_iconst hC (pc := 39) (v := Int32.ofInt 1) dX14_readArg_39 (by decide) ?_
      refine y_iadd hC (pc := 40) (v := ((rF σ 0 31) + 1)) dX14_readArg_40 rfl ?_
      obtain ⟨r11, h⟩ := h
      refine y_putI hC (pc := 41) zf14 rOb_0 31 (x := ((rF σ 0 31) + 1)) dX14_readArg_41 zw2498 (Or.inl rfl) rfl rfl (kk := ?_)
      have W12 := Ws1.sF (q := 0) (f := 31) (x := ((rF σ 0 31) + 1)) r11
      refine z_aload_n hC (pc := 44) 0 dX14_readArg_44 rfl rfl ?_
      obtain ⟨g13, h⟩ := h
      obtain ⟨p14, h⟩ := h
      obtain ⟨p15, h⟩ := h
      refine y_callVi hC (pc := 45) (As := []) (qX14_readMember ih (sF s1 0 31 ((rF σ 0 31) + 1)) gg g13 W12  p14 p15) dmX14_readMember zf14 rOb_0 dX14_readArg_45 zw3202 rfl rfl (Nat.le_of_ble_eq_true rfl) (Nat.le_of_ble_eq_true rfl) (by omega) (by omega) (Nat.le_of_ble_eq_true rfl) (kk := fun v45 s45 hv45 Ws45 qs45 => ?_)
      have h := h v45 s45 hv45 Ws45 (TPRp.keep qs45.1 rfl rfl rfl) (CCp.keep qs45.1 rfl rfl rfl rfl rfl rfl rfl) (qs45.1.R rfl) (qs45.1.F rfl) (qs45.1.F rfl) (qs45.1.F rfl) (qs45.1.F rfl) (qs45.1.F rfl) (qs45.1.F rfl) (fun i => qs45.1.A (f := 26) (by decide) rfl) qs45.2
      refine z_istore_n hC (pc := 48) (lv' := [(1, iv v45), (0, .ref (κ 0))]) dX14_readArg_48 rfl (by decide) rfl ?_
      refine z_iconst hC (pc := 49) (v := Int32.ofInt 0) dX14_readArg_49 (by decide) ?_
      refine z_istore_n hC (pc := 50) (lv' := [(2, iv 0), (1, iv v45), (0, .ref (κ 0))]) dX14_readArg_50 rfl (by decide) rfl ?_
      refine z_aload_n hC (pc := 51) 2 dX14_readArg_51 rfl rfl ?_
      obtain ⟨p16, h⟩ := h
      refine y_callVv hC (pc := 52) (As := []) (kX14_blanks l G κ s45  Ws45  p16) dmX14_blanks zf14 rOb_0 dX14_readArg_52 zw3119 rfl rfl (Nat.le_of_ble_eq_true rfl) (Nat.le_of_ble_eq_true rfl) (by omega) (by omega) (Nat.le_of_ble_eq_true rfl) (kk := fun s52 Ws52 qs52 => ?_)
      have h := h s52 Ws52 (rNMp.keep qs52.1 rfl rfl rfl rfl rfl) (TPRp.keep qs52.1 rfl rfl rfl) (WNp.keep qs52.1 rfl rfl rfl rfl rfl) (PNp.keep qs52.1 rfl rfl rfl rfl rfl) (CCp.keep qs52.1 rfl rfl rfl rfl rfl rfl rfl) (qs52.1.R rfl) (qs52.1.F rfl) (qs52.1.F rfl) (qs52.1.F rfl) (qs52.1.F rfl) (qs52.1.F rfl) (qs52.1.F rfl) (qs52.1.F rfl) (qs52.1.F rfl) (qs52.1.F rfl) (qs52.1.F rfl) (fun i => qs52.1.A (f := 26) (by decide) rfl) (qs52.1.FG g0 rfl) (qs52.1.FG g0 rfl) (qs52.1.FG g0 rfl) (qs52.1.FG g0 rfl) (qs52.1.FG g0 rfl) (fz_keep qs52.1 rfl) (RG.keep (c0 := 0) qs52.1 rfl rfl rfl rfl rfl rfl rfl rfl rfl rfl rfl rfl rfl rfl rfl rfl rfl rfl) qs52.2
      have j55 : ∀ (d55 : Nat), ∀ (s55 : rS) (y55_1 : Int) (y55_2 : Int), rWF s55 → rng y55_1 → rng y55_2 → rKeep 0x6c0a3001c00 0x4100001280 0x13c00000000 0x3ee0000d7f 0 σ s55 → inv_X14_readArg_55 σ gg g s55 y55_1 y55_2 → (mu_X14_readArg_55 σ gg g s55 y55_1 y55_2) ≤ d55 → zS X G 4 (rW G κ s55) [(0, .ref (κ 0)), (1, iv y55_1), (2, iv y55_2)] 0 0 55 [] := by
        intro d55
        induction d55 with
        | zero =>
          intro s55 y55_1 y55_2 Ws55 hy55_1 hy55_2 kJ hI hmu
          exact absurd hmu (by have := h_55m  s55 y55_1 y55_2 Ws55 hy55_1 hy55_2 (TPRp.keep kJ rfl rfl rfl) (CCp.keep kJ rfl rfl rfl rfl rfl rfl rfl) (kJ.R rfl) (kJ.F rfl) (kJ.F rfl) (kJ.F rfl) (kJ.F rfl) (kJ.F rfl) (kJ.F rfl) (fun i => kJ.A (f := 26) (by decide) rfl) hI; omega)
        | succ d55 ih55 =>
          intro s55 y55_1 y55_2 Ws55 hy55_1 hy55_2 kJ hI hmu55
          have h := h_55  s55 y55_1 y55_2 Ws55 hy55_1 hy55_2 (TPRp.keep kJ rfl rfl rfl) (CCp.keep kJ rfl rfl rfl rfl rfl rfl rfl) (kJ.R rfl) (kJ.F rfl) (kJ.F rfl) (kJ.F rfl) (kJ.F rfl) (kJ.F rfl) (kJ.F rfl) (fun i => kJ.A (f := 26) (by decide) rfl) hI
          refine z_aload_n hC (pc := 55) 0 dX14_readArg_55 rfl rfl ?_
          obtain ⟨p17, h⟩ := h
          refine y_callVi hC (pc := 56) (As := []) (kX14_here l G κ s55  Ws55  p17) dmX14_here zf14 rOb_0 dX14_readArg_56 zw3099 rfl rfl (Nat.le_of_ble_eq_true rfl) (Nat.le_of_ble_eq_true rfl) (by omega) (by omega) (Nat.le_of_ble_eq_true rfl) (kk := fun v56 s56 hv56 Ws56 qs56 => ?_)
          obtain ⟨es56, qs56⟩ := qs56
          have es56 := es56.symm
          subst es56
          have h := h v56 hv56 qs56
          refine z_bipush hC (pc := 59) (v := Int32.ofInt 58) dX14_readArg_59 (by decide) ?_
          obtain ⟨hT, hF⟩ := h
          refine y_icmp_ne hC (pc := 61) 133 hv56 (r_lit rfl) dX14_readArg_61 (by decide) (fun c => ?_) (fun c => ?_)
          · have h := hT c
            refine z_aload_n hC (pc := 133) 0 dX14_readArg_133 rfl rfl ?_
            refine z_dup hC (pc := 134) dX14_readArg_134 rfl ?_
            refine y_get hC (pc := 135) zf14 rOb_0 31 (v := iv (rF s55 0 31)) dX14_readArg_135 zw2498 (rv_i (Or.inl rfl) rfl) (kk := ?_)
            have h := h (Ws55.f _ _)
            refine z_iconst hC (pc := 138) (v := Int32.ofInt 1) dX14_readArg_138 (by decide) ?_
            refine y_isub hC (pc := 139) (v := ((rF s55 0 31) - 1)) dX14_readArg_139 rfl ?_
            obtain ⟨r18, h⟩ := h
            refine y_putI hC (pc := 140) zf14 rOb_0 31 (x := ((rF s55 0 31) - 1)) dX14_readArg_140 zw2498 (Or.inl rfl) rfl rfl (kk := ?_)
            have W19 := Ws55.sF (q := 0) (f := 31) (x := ((rF s55 0 31) - 1)) r18
            refine z_iload_n hC (pc := 143) 1 dX14_readArg_143 rfl rfl ?_
            exact y_reti hR dX14_readArg_144 rfl hy55_1 W19 (Nat.le_of_ble_eq_true rfl) (Nat.le_of_ble_eq_true rfl) ⟨(rKeep.tr (rKeep.tr rKeep.rf kJ rfl rfl rfl rfl rfl) (rKeep.sF0 (f := 31)) rfl rfl rfl rfl rfl), h⟩
          · have h := hF c
            refine z_aload_n hC (pc := 64) 0 dX14_readArg_64 rfl rfl ?_
            refine y_get hC (pc := 65) zf14 rOb_0 10 (v := iv (rF s55 0 10)) dX14_readArg_65 zw2478 (rv_i (Or.inl rfl) rfl) (kk := ?_)
            have h := h (Ws55.f _ _)
            obtain ⟨hT, hF⟩ := h
            refine y_if_ne hC (pc := 68) 133 (Ws55.f _ _) dX14_readArg_68 (by decide) (fun c => ?_) (fun c => ?_)
            · have h := hT c
              refine z_aload_n hC (pc := 133) 0 dX14_readArg_133 rfl rfl ?_
              refine z_dup hC (pc := 134) dX14_readArg_134 rfl ?_
              refine y_get hC (pc := 135) zf14 rOb_0 31 (v := iv (rF s55 0 31)) dX14_readArg_135 zw2498 (rv_i (Or.inl rfl) rfl) (kk := ?_)
              have h := h (Ws55.f _ _)
              refine z_iconst hC (pc := 138) (v := Int32.ofInt 1) dX14_readArg_138 (by decide) ?_
              refine y_isub hC (pc := 139) (v := ((rF s55 0 31) - 1)) dX14_readArg_139 rfl ?_
              obtain ⟨r20, h⟩ := h
              refine y_putI hC (pc := 140) zf14 rOb_0 31 (x := ((rF s55 0 31) - 1)) dX14_readArg_140 zw2498 (Or.inl rfl) rfl rfl (kk := ?_)
              have W21 := Ws55.sF (q := 0) (f := 31) (x := ((rF s55 0 31) - 1)) r20
              refine z_iload_n hC (pc := 143) 1 dX14_readArg_143 rfl rfl ?_
              exact y_reti hR dX14_readArg_144 rfl hy55_1 W21 (Nat.le_of_ble_eq_true rfl) (Nat.le_of_ble_eq_true rfl) ⟨(rKeep.tr (rKeep.tr rKeep.rf kJ rfl rfl rfl rfl rfl) (rKeep.sF0 (f := 31)) rfl rfl rfl rfl rfl), h⟩
            · have h := hF c
              refine z_aload_n hC (pc := 71) 0 dX14_readArg_71 rfl rfl ?_
              refine z_dup hC (pc := 72) dX14_readArg_72 rfl ?_
              refine y_get hC (pc := 73) zf14 rOb_0 29 (v := iv (rF s55 0 29)) dX14_readArg_73 zw2496 (rv_i (Or.inl rfl) rfl) (kk := ?_)
              have h := h (Ws55.f _ _)
              refine z_iconst hC (pc := 76) (v := Int32.ofInt 1) dX14_readArg_76 (by decide) ?_
              refine y_iadd hC (pc := 77) (v := ((rF s55 0 29) + 1)) dX14_readArg_77 rfl ?_
              obtain ⟨r22, h⟩ := h
              refine y_putI hC (pc := 78) zf14 rOb_0 29 (x := ((rF s55 0 29) + 1)) dX14_readArg_78 zw2496 (Or.inl rfl) rfl rfl (kk := ?_)
              have W23 := Ws55.sF (q := 0) (f := 29) (x := ((rF s55 0 29) + 1)) r22
              refine z_aload_n hC (pc := 81) 0 dX14_readArg_81 rfl rfl ?_
              refine z_bipush hC (pc := 82) (v := Int32.ofInt 44) dX14_readArg_82 (by decide) ?_
              refine z_aload_n hC (pc := 84) 0 dX14_readArg_84 rfl rfl ?_
              obtain ⟨g24, h⟩ := h
              obtain ⟨p25, h⟩ := h
              obtain ⟨p26, h⟩ := h
              refine y_callVi hC (pc := 85) (As := []) (qX14_readApplied ih (sF s55 0 29 ((rF s55 0 29) + 1)) gg g24 W23  p25 p26) dmX14_readApplied zf14 rOb_0 dX14_readArg_85 zw3242 rfl rfl (Nat.le_of_ble_eq_true rfl) (Nat.le_of_ble_eq_true rfl) (by omega) (by omega) (Nat.le_of_ble_eq_true rfl) (kk := fun v85 s85 hv85 Ws85 qs85 => ?_)
              have h := h v85 s85 hv85 Ws85 (TPRp.keep qs85.1 rfl rfl rfl) (CCp.keep qs85.1 rfl rfl rfl rfl rfl rfl rfl) (qs85.1.R rfl) (qs85.1.F rfl) (qs85.1.F rfl) (qs85.1.F rfl) (qs85.1.F rfl) (qs85.1.F rfl) (qs85.1.F rfl) (fun i => qs85.1.A (f := 26) (by decide) rfl) qs85.2
              refine z_iconst hC (pc := 88) (v := Int32.ofInt 0) dX14_readArg_88 (by decide) ?_
              refine z_aload_n hC (pc := 89) 0 dX14_readArg_89 rfl rfl ?_
              obtain ⟨p27, h⟩ := h
              refine y_callVi hC (pc := 90) (As := []) (kX14_place l G κ s85  Ws85  p27) dmX14_place zf14 rOb_0 dX14_readArg_90 zw3103 rfl rfl (Nat.le_of_ble_eq_true rfl) (Nat.le_of_ble_eq_true rfl) (by omega) (by omega) (Nat.le_of_ble_eq_true rfl) (kk := fun v90 s90 hv90 Ws90 qs90 => ?_)
              obtain ⟨es90, qs90⟩ := qs90
              have es90 := es90.symm
              subst es90
              have h := h v90 hv90 qs90
              obtain ⟨p28, h⟩ := h
              refine y_callVi hC (pc := 93) (As := [iv 44, iv v85, iv 0, iv v90]) (kX14_node_t l G κ s85 44 v85 0 v90 gg Ws85 (r_lit rfl) hv85 (r_lit rfl) hv90 p28) dmX14_node zf14 rOb_0 dX14_readArg_93 zw3170 rfl rfl (Nat.le_of_ble_eq_true rfl) (Nat.le_of_ble_eq_true rfl) (by omega) (by omega) (Nat.le_of_ble_eq_true rfl) (kk := fun v93 s93 hv93 Ws93 qs93 => ?_)
              have h := h v93 s93 hv93 Ws93 (rNMp.keep qs93.1 rfl rfl rfl rfl rfl) (TPRp.keep qs93.1 rfl rfl rfl) (WNp.keep qs93.1 rfl rfl rfl rfl rfl) (CCp.keep qs93.1 rfl rfl rfl rfl rfl rfl rfl) (qs93.1.R rfl) (qs93.1.F rfl) (qs93.1.F rfl) (qs93.1.F rfl) (qs93.1.F rfl) (qs93.1.F rfl) (qs93.1.F rfl) (qs93.1.F rfl) (qs93.1.F rfl) (qs93.1.F rfl) (qs93.1.F rfl) (qs93.1.F rfl) (fun i => qs93.1.A (f := 26) (by decide) rfl) (qs93.1.FG g0 rfl) (qs93.1.FG g0 rfl) (qs93.1.FG g0 rfl) (qs93.1.FG g0 rfl) (fz_keep qs93.1 rfl) qs93.2
              refine z_istore_n hC (pc := 96) (lv' := [(3, iv v93), (0, .ref (κ 0)), (1, iv y55_1), (2, iv y55_2)]) dX14_readArg_96 rfl (by decide) rfl ?_
              refine z_iload_n hC (pc := 97) 3 dX14_readArg_97 rfl rfl ?_
              obtain ⟨hT, hF⟩ := h
              refine y_if_ne hC (pc := 98) 114 hy55_2 dX14_readArg_98 (by decide) (fun c => ?_) (fun c => ?_)
              · have h := hT c
                refine z_aload_n hC (pc := 114) 1 dX14_readArg_114 rfl rfl ?_
                refine y_get hC (pc := 115) zf14 rOb_0 7 (v := .ref (κ (rR σ 7))) dX14_readArg_115 zw2475 (rv_g rfl ((qs93.1.R rfl).trans ((qs85.1.R rfl).trans (kJ.R rfl))) g0) (kk := ?_)
                refine y_getN hC (pc := 118) zf13 (rOb_k g0) 5 (v := .ref (κ (1000 * ((rR σ 7) + 1) + 5))) dX14_readArg_118 zw2320 (rv_c rfl) (kk := ?_)
                refine z_iload_n hC (pc := 121) 3 dX14_readArg_121 rfl rfl ?_
                refine z_iload_n hC (pc := 122) 0 dX14_readArg_122 rfl rfl ?_
                obtain ⟨b29, h⟩ := h
                refine y_iast hC (pc := 123) (rAr_k g0 rfl rfl) dX14_readArg_123 b29 (v := v93) (kk := ?_)
                have W30 := Ws93.sA (p := (1000 * ((rR σ 7) + 1) + 5)) (i := y55_2) (x := v93) hv93
                refine z_iload_n hC (pc := 124) 0 dX14_readArg_124 rfl rfl ?_
                refine z_istore_n hC (pc := 125) (lv' := [(2, iv v93), (3, iv v93), (0, .ref (κ 0)), (1, iv y55_1)]) dX14_readArg_125 rfl (by decide) rfl ?_
                refine z_aload_n hC (pc := 126) 2 dX14_readArg_126 rfl rfl ?_
                obtain ⟨p31, h⟩ := h
                refine y_callVv hC (pc := 127) (As := []) (kX14_blanks l G κ (sT s93 (rR σ 7) 5 y55_2 v93)  W30  p31) dmX14_blanks zf14 rOb_0 dX14_readArg_127 zw3119 rfl rfl (Nat.le_of_ble_eq_true rfl) (Nat.le_of_ble_eq_true rfl) (by omega) (by omega) (Nat.le_of_ble_eq_true rfl) (kk := fun s127 Ws127 qs127 => ?_)
                have h := h s127 Ws127 (rNMp.keep qs127.1 rfl rfl rfl rfl rfl) (TPRp.keep qs127.1 rfl rfl rfl) (WNp.keep qs127.1 rfl rfl rfl rfl rfl) (PNp.keep qs127.1 rfl rfl rfl rfl rfl) (CCp.keep qs127.1 rfl rfl rfl rfl rfl rfl rfl) (qs127.1.R rfl) (qs127.1.F rfl) (qs127.1.F rfl) (qs127.1.F rfl) (qs127.1.F rfl) (qs127.1.F rfl) (qs127.1.F rfl) (qs127.1.F rfl) (qs127.1.F rfl) (qs127.1.F rfl) (qs127.1.F rfl) (fun i => qs127.1.A (f := 26) (by decide) rfl) (qs127.1.FG g0 rfl) (qs127.1.FG g0 rfl) (qs127.1.FG g0 rfl) (qs127.1.FG g0 rfl) (qs127.1.FG g0 rfl) (fz_keep qs127.1 rfl) (RG.keep (c0 := 0) qs127.1 rfl rfl rfl rfl rfl rfl rfl rfl rfl rfl rfl rfl rfl rfl rfl rfl rfl rfl) qs127.2
                refine z_goto hC (pc := 130) 55 dX14_readArg_130 (by decide) ?_
                refine z_lvs [2, 3, 0] rfl ?_
                obtain ⟨hI, hm⟩ := h
                exact ih55 s127 y55_1 v93 Ws127 hy55_1 hv93 (rKeep.tr (rKeep.tr (rKeep.tr (rKeep.tr (rKeep.tr (rKeep.tr rKeep.rf kJ rfl rfl rfl rfl rfl) (rKeep.sF0 (f := 29)) rfl rfl rfl rfl rfl) qs85.1 rfl rfl rfl rfl rfl) qs93.1 rfl rfl rfl rfl rfl) (rKeep.sAk (f := 5) g0 (by decide)) rfl rfl rfl rfl rfl) qs127.1 rfl rfl rfl rfl rfl) hI (by omega)
              · have h := hF c
                refine z_aload_n hC (pc := 101) 1 dX14_readArg_101 rfl rfl ?_
                refine y_get hC (pc := 102) zf14 rOb_0 7 (v := .ref (κ (rR σ 7))) dX14_readArg_102 zw2475 (rv_g rfl ((qs93.1.R rfl).trans ((qs85.1.R rfl).trans (kJ.R rfl))) g0) (kk := ?_)
                refine y_getN hC (pc := 105) zf13 (rOb_k g0) 3 (v := .ref (κ (1000 * ((rR σ 7) + 1) + 3))) dX14_readArg_105 zw2316 (rv_c rfl) (kk := ?_)
                refine z_iload_n hC (pc := 108) 2 dX14_readArg_108 rfl rfl ?_
                refine z_iload_n hC (pc := 109) 0 dX14_readArg_109 rfl rfl ?_
                obtain ⟨b32, h⟩ := h
                refine y_iast hC (pc := 110) (rAr_k g0 rfl rfl) dX14_readArg_110 b32 (v := v93) (kk := ?_)
                have W33 := Ws93.sA (p := (1000 * ((rR σ 7) + 1) + 3)) (i := y55_1) (x := v93) hv93
                refine z_goto hC (pc := 111) 124 dX14_readArg_111 (by decide) ?_
                refine z_iload_n hC (pc := 124) 0 dX14_readArg_124 rfl rfl ?_
                refine z_istore_n hC (pc := 125) (lv' := [(2, iv v93), (3, iv v93), (0, .ref (κ 0)), (1, iv y55_1)]) dX14_readArg_125 rfl (by decide) rfl ?_
                refine z_aload_n hC (pc := 126) 2 dX14_readArg_126 rfl rfl ?_
                obtain ⟨p34, h⟩ := h
                refine y_callVv hC (pc := 127) (As := []) (kX14_blanks l G κ (sT s93 (rR σ 7) 3 y55_1 v93)  W33  p34) dmX14_blanks zf14 rOb_0 dX14_readArg_127 zw3119 rfl rfl (Nat.le_of_ble_eq_true rfl) (Nat.le_of_ble_eq_true rfl) (by omega) (by omega) (Nat.le_of_ble_eq_true rfl) (kk := fun s127 Ws127 qs127 => ?_)
                have h := h s127 Ws127 (rNMp.keep qs127.1 rfl rfl rfl rfl rfl) (TPRp.keep qs127.1 rfl rfl rfl) (WNp.keep qs127.1 rfl rfl rfl rfl rfl) (PNp.keep qs127.1 rfl rfl rfl rfl rfl) (CCp.keep qs127.1 rfl rfl rfl rfl rfl rfl rfl) (qs127.1.R rfl) (qs127.1.F rfl) (qs127.1.F rfl) (qs127.1.F rfl) (qs127.1.F rfl) (qs127.1.F rfl) (qs127.1.F rfl) (qs127.1.F rfl) (qs127.1.F rfl) (qs127.1.F rfl) (qs127.1.F rfl) (fun i => qs127.1.A (f := 26) (by decide) rfl) (qs127.1.FG g0 rfl) (qs127.1.FG g0 rfl) (qs127.1.FG g0 rfl) (qs127.1.FG g0 rfl) (qs127.1.FG g0 rfl) (fz_keep qs127.1 rfl) (RG.keep (c0 := 0) qs127.1 rfl rfl rfl rfl rfl rfl rfl rfl rfl rfl rfl rfl rfl rfl rfl rfl rfl rfl) qs127.2
                refine z_goto hC (pc := 130) 55 dX14_readArg_130 (by decide) ?_
                refine z_lvs [2, 3, 0] rfl ?_
                obtain ⟨hI, hm⟩ := h
                exact ih55 s127 y55_1 v93 Ws127 hy55_1 hv93 (rKeep.tr (rKeep.tr (rKeep.tr (rKeep.tr (rKeep.tr (rKeep.tr rKeep.rf kJ rfl rfl rfl rfl rfl) (rKeep.sF0 (f := 29)) rfl rfl rfl rfl rfl) qs85.1 rfl rfl rfl rfl rfl) qs93.1 rfl rfl rfl rfl rfl) (rKeep.sAk (f := 3) g0 (by decide)) rfl rfl rfl rfl rfl) qs127.1 rfl rfl rfl rfl rfl) hI (by omega)
      refine z_lvs [2, 1, 0] rfl ?_
      exact j55 _ s52 v45 0 Ws52 hv45 (r_lit rfl) (rKeep.tr (rKeep.tr (rKeep.tr (rKeep.tr rKeep.rf qs1.1 rfl rfl rfl rfl rfl) (rKeep.sF0 (f := 31)) rfl rfl rfl rfl rfl) qs45.1 rfl rfl rfl rfl rfl) qs52.1 rfl rfl rfl rfl rfl) h (Nat.le_refl _)
    · have h := hF c
      refine z_aload_n hC (pc := 22) 0 dX14_readArg_22 rfl rfl ?_
      refine z_aload_n hC (pc := 23) 0 dX14_readArg_23 rfl rfl ?_
      obtain ⟨p35, h⟩ := h
      refine y_callVi hC (pc := 24) (As := []) (kX14_lowest l G κ s1  Ws1  p35) dmX14_lowest zf14 rOb_0 dX14_readArg_24 zw3238 rfl rfl (Nat.le_of_ble_eq_true rfl) (Nat.le_of_ble_eq_true rfl) (by omega) (by omega) (Nat.le_of_ble_eq_true rfl) (kk := fun v24 s24 hv24 Ws24 qs24 => ?_)
      obtain ⟨es24, qs24⟩ := qs24
      have es24 := es24.symm
      subst es24
      have h := h v24 hv24 qs24
      refine z_aload_n hC (pc := 27) 0 dX14_readArg_27 rfl rfl ?_
      obtain ⟨p36, h⟩ := h
      refine y_callVi hC (pc := 28) (As := []) (kX14_place l G κ s1  Ws1  p36) dmX14_place zf14 rOb_0 dX14_readArg_28 zw3103 rfl rfl (Nat.le_of_ble_eq_true rfl) (Nat.le_of_ble_eq_true rfl) (by omega) (by omega) (Nat.le_of_ble_eq_true rfl) (kk := fun v28 s28 hv28 Ws28 qs28 => ?_)
      obtain ⟨es28, qs28⟩ := qs28
      have es28 := es28.symm
      subst es28
      have h := h v28 hv28 qs28
      obtain ⟨p37, h⟩ := h
      refine y_callVv hC (pc := 31) (As := [iv v24, iv v28]) (kX14_bad l G κ s1 v24 v28 Ws1 hv24 hv28 p37) dmX14_bad zf14 rOb_0 dX14_readArg_31 zw3000 rfl rfl (Nat.le_of_ble_eq_true rfl) (Nat.le_of_ble_eq_true rfl) (by omega) (by omega) (Nat.le_of_ble_eq_true rfl) (kk := fun s31 Ws31 qs31 => ?_)
      have h := h s31 Ws31 (rNMp.keep qs31.1 rfl rfl rfl rfl rfl) (TPRp.keep qs31.1 rfl rfl rfl) (WNp.keep qs31.1 rfl rfl rfl rfl rfl) (PNp.keep qs31.1 rfl rfl rfl rfl rfl) (CCp.keep qs31.1 rfl rfl rfl rfl rfl rfl rfl) (qs31.1.R rfl) (qs31.1.F rfl) (qs31.1.F rfl) (qs31.1.F rfl) (qs31.1.F rfl) (qs31.1.F rfl) (qs31.1.F rfl) (qs31.1.F rfl) (qs31.1.F rfl) (qs31.1.F rfl) (qs31.1.F rfl) (fun i => qs31.1.A (f := 26) (by decide) rfl) (qs31.1.FG g0 rfl) (qs31.1.FG g0 rfl) (qs31.1.FG g0 rfl) (qs31.1.FG g0 rfl) (qs31.1.FG g0 rfl) (RG.keep (c0 := 0) qs31.1 rfl rfl rfl rfl rfl rfl rfl rfl rfl rfl rfl rfl rfl rfl rfl rfl rfl rfl) qs31.2
      refine z_aload_n hC (pc := 34) 0 dX14_readArg_34 rfl rfl ?_
      refine z_dup hC (pc := 35) dX14_readArg_35 rfl ?_
      refine y_get hC (pc := 36) zf14 rOb_0 31 (v := iv (rF σ 0 31)) dX14_readArg_36 zw2498 (rv_i (Or.inl rfl) ((qs31.1.F rfl).trans ((qs1.1.F rfl).trans rfl))) (kk := ?_)
      refine z_iconst hC (pc := 39) (v := Int32.ofInt 1) dX14_readArg_39 (by decide) ?_
      refine y_iadd hC (pc := 40) (v := ((rF σ 0 31) + 1)) dX14_readArg_40 rfl ?_
      obtain ⟨r38, h⟩ := h
      refine y_putI hC (pc := 41) zf14 rOb_0 31 (x := ((rF σ 0 31) + 1)) dX14_readArg_41 zw2498 (Or.inl rfl) rfl rfl (kk := ?_)
      have W39 := Ws31.sF (q := 0) (f := 31) (x := ((rF σ 0 31) + 1)) r38
      refine z_aload_n hC (pc := 44) 0 dX14_readArg_44 rfl rfl ?_
      obtain ⟨g40, h⟩ := h
      obtain ⟨p41, h⟩ := h
      obtain ⟨p42, h⟩ := h
      refine y_callVi hC (pc := 45) (As := []) (qX14_readMember ih (sF s31 0 31 ((rF σ 0 31) + 1)) gg g40 W39  p41 p42) dmX14_readMember zf14 rOb_0 dX14_readArg_45 zw3202 rfl rfl (Nat.le_of_ble_eq_true rfl) (Nat.le_of_ble_eq_true rfl) (by omega) (by omega) (Nat.le_of_ble_eq_true rfl) (kk := fun v45 s45 hv45 Ws45 qs45 => ?_)
      have h := h v45 s45 hv45 Ws45 (TPRp.keep qs45.1 rfl rfl rfl) (CCp.keep qs45.1 rfl rfl rfl rfl rfl rfl rfl) (qs45.1.R rfl) (qs45.1.F rfl) (qs45.1.F rfl) (qs45.1.F rfl) (qs45.1.F rfl) (qs45.1.F rfl) (qs45.1.F rfl) (fun i => qs45.1.A (f := 26) (by decide) rfl) qs45.2
      refine z_istore_n hC (pc := 48) (lv' := [(1, iv v45), (0, .ref (κ 0))]) dX14_readArg_48 rfl (by decide) rfl ?_
      refine z_iconst hC (pc := 49) (v := Int32.ofInt 0) dX14_readArg_49 (by decide) ?_
      refine z_istore_n hC (pc := 50) (lv' := [(2, iv 0), (1, iv v45), (0, .ref (κ 0))]) dX14_readArg_50 rfl (by decide) rfl ?_
      refine z_aload_n hC (pc := 51) 2 dX14_readArg_51 rfl rfl ?_
      obtain ⟨p43, h⟩ := h
      refine y_callVv hC (pc := 52) (As := []) (kX14_blanks l G κ s45  Ws45  p43) dmX14_blanks zf14 rOb_0 dX14_readArg_52 zw3119 rfl rfl (Nat.le_of_ble_eq_true rfl) (Nat.le_of_ble_eq_true rfl) (by omega) (by omega) (Nat.le_of_ble_eq_true rfl) (kk := fun s52 Ws52 qs52 => ?_)
      have h := h s52 Ws52 (rNMp.keep qs52.1 rfl rfl rfl rfl rfl) (TPRp.keep qs52.1 rfl rfl rfl) (WNp.keep qs52.1 rfl rfl rfl rfl rfl) (PNp.keep qs52.1 rfl rfl rfl rfl rfl) (CCp.keep qs52.1 rfl rfl rfl rfl rfl rfl rfl) (qs52.1.R rfl) (qs52.1.F rfl) (qs52.1.F rfl) (qs52.1.F rfl) (qs52.1.F rfl) (qs52.1.F rfl) (qs52.1.F rfl) (qs52.1.F rfl) (qs52.1.F rfl) (qs52.1.F rfl) (qs52.1.F rfl) (fun i => qs52.1.A (f := 26) (by decide) rfl) (qs52.1.FG g0 rfl) (qs52.1.FG g0 rfl) (qs52.1.FG g0 rfl) (qs52.1.FG g0 rfl) (qs52.1.FG g0 rfl) (fz_keep qs52.1 rfl) (RG.keep (c0 := 0) qs52.1 rfl rfl rfl rfl rfl rfl rfl rfl rfl rfl rfl rfl rfl rfl rfl rfl rfl rfl) qs52.2
      have j55 : ∀ (d55 : Nat), ∀ (s55 : rS) (y55_1 : Int) (y55_2 : Int), rWF s55 → rng y55_1 → rng y55_2 → rKeep 0x6c0a3001c00 0x4100001280 0x13c00000000 0x3ee0000d7f 0 σ s55 → inv_X14_readArg_55 σ gg g s55 y55_1 y55_2 → (mu_X14_readArg_55 σ gg g s55 y55_1 y55_2) ≤ d55 → zS X G 4 (rW G κ s55) [(0, .ref (κ 0)), (1, iv y55_1), (2, iv y55_2)] 0 0 55 [] := by
        intro d55
        induction d55 with
        | zero =>
          intro s55 y55_1 y55_2 Ws55 hy55_1 hy55_2 kJ hI hmu
          exact absurd hmu (by have := h_55m  s55 y55_1 y55_2 Ws55 hy55_1 hy55_2 (TPRp.keep kJ rfl rfl rfl) (CCp.keep kJ rfl rfl rfl rfl rfl rfl rfl) (kJ.R rfl) (kJ.F rfl) (kJ.F rfl) (kJ.F rfl) (kJ.F rfl) (kJ.F rfl) (kJ.F rfl) (fun i => kJ.A (f := 26) (by decide) rfl) hI; omega)
        | succ d55 ih55 =>
          intro s55 y55_1 y55_2 Ws55 hy55_1 hy55_2 kJ hI hmu55
          have h := h_55  s55 y55_1 y55_2 Ws55 hy55_1 hy55_2 (TPRp.keep kJ rfl rfl rfl) (CCp.keep kJ rfl rfl rfl rfl rfl rfl rfl) (kJ.R rfl) (kJ.F rfl) (kJ.F rfl) (kJ.F rfl) (kJ.F rfl) (kJ.F rfl) (kJ.F rfl) (fun i => kJ.A (f := 26) (by decide) rfl) hI
          refine z_aload_n hC (pc := 55) 0 dX14_readArg_55 rfl rfl ?_
          obtain ⟨p44, h⟩ := h
          refine y_callVi hC (pc := 56) (As := []) (kX14_here l G κ s55  Ws55  p44) dmX14_here zf14 rOb_0 dX14_readArg_56 zw3099 rfl rfl (Nat.le_of_ble_eq_true rfl) (Nat.le_of_ble_eq_true rfl) (by omega) (by omega) (Nat.le_of_ble_eq_true rfl) (kk := fun v56 s56 hv56 Ws56 qs56 => ?_)
          obtain ⟨es56, qs56⟩ := qs56
          have es56 := es56.symm
          subst es56
          have h := h v56 hv56 qs56
          refine z_bipush hC (pc := 59) (v := Int32.ofInt 58) dX14_readArg_59 (by decide) ?_
          obtain ⟨hT, hF⟩ := h
          refine y_icmp_ne hC (pc := 61) 133 hv56 (r_lit rfl) dX14_readArg_61 (by decide) (fun c => ?_) (fun c => ?_)
          · have h := hT c
            refine z_aload_n hC (pc := 133) 0 dX14_readArg_133 rfl rfl ?_
            refine z_dup hC (pc := 134) dX14_readArg_134 rfl ?_
            refine y_get hC (pc := 135) zf14 rOb_0 31 (v := iv (rF s55 0 31)) dX14_readArg_135 zw2498 (rv_i (Or.inl rfl) rfl) (kk := ?_)
            have h := h (Ws55.f _ _)
            refine z_iconst hC (pc := 138) (v := Int32.ofInt 1) dX14_readArg_138 (by decide) ?_
            refine y_isub hC (pc := 139) (v := ((rF s55 0 31) - 1)) dX14_readArg_139 rfl ?_
            obtain ⟨r45, h⟩ := h
            refine y_putI hC (pc := 140) zf14 rOb_0 31 (x := ((rF s55 0 31) - 1)) dX14_readArg_140 zw2498 (Or.inl rfl) rfl rfl (kk := ?_)
            have W46 := Ws55.sF (q := 0) (f := 31) (x := ((rF s55 0 31) - 1)) r45
            refine z_iload_n hC (pc := 143) 1 dX14_readArg_143 rfl rfl ?_
            exact y_reti hR dX14_readArg_144 rfl hy55_1 W46 (Nat.le_of_ble_eq_true rfl) (Nat.le_of_ble_eq_true rfl) ⟨(rKeep.tr (rKeep.tr rKeep.rf kJ rfl rfl rfl rfl rfl) (rKeep.sF0 (f := 31)) rfl rfl rfl rfl rfl), h⟩
          · have h := hF c
            refine z_aload_n hC (pc := 64) 0 dX14_readArg_64 rfl rfl ?_
            refine y_get hC (pc := 65) zf14 rOb_0 10 (v := iv (rF s55 0 10)) dX14_readArg_65 zw2478 (rv_i (Or.inl rfl) rfl) (kk := ?_)
            have h := h (Ws55.f _ _)
            obtain ⟨hT, hF⟩ := h
            refine y_if_ne hC (pc := 68) 133 (Ws55.f _ _) dX14_readArg_68 (by decide) (fun c => ?_) (fun c => ?_)
            · have h := hT c
              refine z_aload_n hC (pc := 133) 0 dX14_readArg_133 rfl rfl ?_
              refine z_dup hC (pc := 134) dX14_readArg_134 rfl ?_
              refine y_get hC (pc := 135) zf14 rOb_0 31 (v := iv (rF s55 0 31)) dX14_readArg_135 zw2498 (rv_i (Or.inl rfl) rfl) (kk := ?_)
              have h := h (Ws55.f _ _)
              refine z_iconst hC (pc := 138) (v := Int32.ofInt 1) dX14_readArg_138 (by decide) ?_
              refine y_isub hC (pc := 139) (v := ((rF s55 0 31) - 1)) dX14_readArg_139 rfl ?_
              obtain ⟨r47, h⟩ := h
              refine y_putI hC (pc := 140) zf14 rOb_0 31 (x := ((rF s55 0 31) - 1)) dX14_readArg_140 zw2498 (Or.inl rfl) rfl rfl (kk := ?_)
              have W48 := Ws55.sF (q := 0) (f := 31) (x := ((rF s55 0 31) - 1)) r47
              refine z_iload_n hC (pc := 143) 1 dX14_readArg_143 rfl rfl ?_
              exact y_reti hR dX14_readArg_144 rfl hy55_1 W48 (Nat.le_of_ble_eq_true rfl) (Nat.le_of_ble_eq_true rfl) ⟨(rKeep.tr (rKeep.tr rKeep.rf kJ rfl rfl rfl rfl rfl) (rKeep.sF0 (f := 31)) rfl rfl rfl rfl rfl), h⟩
            · have h := hF c
              refine z_aload_n hC (pc := 71) 0 dX14_readArg_71 rfl rfl ?_
              refine z_dup hC (pc := 72) dX14_readArg_72 rfl ?_
              refine y_get hC (pc := 73) zf14 rOb_0 29 (v := iv (rF s55 0 29)) dX14_readArg_73 zw2496 (rv_i (Or.inl rfl) rfl) (kk := ?_)
              have h := h (Ws55.f _ _)
              refine z_iconst hC (pc := 76) (v := Int32.ofInt 1) dX14_readArg_76 (by decide) ?_
              refine y_iadd hC (pc := 77) (v := ((rF s55 0 29) + 1)) dX14_readArg_77 rfl ?_
              obtain ⟨r49, h⟩ := h
              refine y_putI hC (pc := 78) zf14 rOb_0 29 (x := ((rF s55 0 29) + 1)) dX14_readArg_78 zw2496 (Or.inl rfl) rfl rfl (kk := ?_)
              have W50 := Ws55.sF (q := 0) (f := 29) (x := ((rF s55 0 29) + 1)) r49
              refine z_aload_n hC (pc := 81) 0 dX14_readArg_81 rfl rfl ?_
              refine z_bipush hC (pc := 82) (v := Int32.ofInt 44) dX14_readArg_82 (by decide) ?_
              refine z_aload_n hC (pc := 84) 0 dX14_readArg_84 rfl rfl ?_
              obtain ⟨g51, h⟩ := h
              obtain ⟨p52, h⟩ := h
              obtain ⟨p53, h⟩ := h
              refine y_callVi hC (pc := 85) (As := []) (qX14_readApplied ih (sF s55 0 29 ((rF s55 0 29) + 1)) gg g51 W50  p52 p53) dmX14_readApplied zf14 rOb_0 dX14_readArg_85 zw3242 rfl rfl (Nat.le_of_ble_eq_true rfl) (Nat.le_of_ble_eq_true rfl) (by omega) (by omega) (Nat.le_of_ble_eq_true rfl) (kk := fun v85 s85 hv85 Ws85 qs85 => ?_)
              have h := h v85 s85 hv85 Ws85 (TPRp.keep qs85.1 rfl rfl rfl) (CCp.keep qs85.1 rfl rfl rfl rfl rfl rfl rfl) (qs85.1.R rfl) (qs85.1.F rfl) (qs85.1.F rfl) (qs85.1.F rfl) (qs85.1.F rfl) (qs85.1.F rfl) (qs85.1.F rfl) (fun i => qs85.1.A (f := 26) (by decide) rfl) qs85.2
              refine z_iconst hC (pc := 88) (v := Int32.ofInt 0) dX14_readArg_88 (by decide) ?_
              refine z_aload_n hC (pc := 89) 0 dX14_readArg_89 rfl rfl ?_
              obtain ⟨p54, h⟩ := h
              refine y_callVi hC (pc := 90) (As := []) (kX14_place l G κ s85  Ws85  p54) dmX14_place zf14 rOb_0 dX14_readArg_90 zw3103 rfl rfl (Nat.le_of_ble_eq_true rfl) (Nat.le_of_ble_eq_true rfl) (by omega) (by omega) (Nat.le_of_ble_eq_true rfl) (kk := fun v90 s90 hv90 Ws90 qs90 => ?_)
              obtain ⟨es90, qs90⟩ := qs90
              have es90 := es90.symm
              subst es90
              have h := h v90 hv90 qs90
              obtain ⟨p55, h⟩ := h
              refine y_callVi hC (pc := 93) (As := [iv 44, iv v85, iv 0, iv v90]) (kX14_node_t l G κ s85 44 v85 0 v90 gg Ws85 (r_lit rfl) hv85 (r_lit rfl) hv90 p55) dmX14_node zf14 rOb_0 dX14_readArg_93 zw3170 rfl rfl (Nat.le_of_ble_eq_true rfl) (Nat.le_of_ble_eq_true rfl) (by omega) (by omega) (Nat.le_of_ble_eq_true rfl) (kk := fun v93 s93 hv93 Ws93 qs93 => ?_)
              have h := h v93 s93 hv93 Ws93 (rNMp.keep qs93.1 rfl rfl rfl rfl rfl) (TPRp.keep qs93.1 rfl rfl rfl) (WNp.keep qs93.1 rfl rfl rfl rfl rfl) (CCp.keep qs93.1 rfl rfl rfl rfl rfl rfl rfl) (qs93.1.R rfl) (qs93.1.F rfl) (qs93.1.F rfl) (qs93.1.F rfl) (qs93.1.F rfl) (qs93.1.F rfl) (qs93.1.F rfl) (qs93.1.F rfl) (qs93.1.F rfl) (qs93.1.F rfl) (qs93.1.F rfl) (qs93.1.F rfl) (fun i => qs93.1.A (f := 26) (by decide) rfl) (qs93.1.FG g0 rfl) (qs93.1.FG g0 rfl) (qs93.1.FG g0 rfl) (qs93.1.FG g0 rfl) (fz_keep qs93.1 rfl) qs93.2
              refine z_istore_n hC (pc := 96) (lv' := [(3, iv v93), (0, .ref (κ 0)), (1, iv y55_1), (2, iv y55_2)]) dX14_readArg_96 rfl (by decide) rfl ?_
              refine z_iload_n hC (pc := 97) 3 dX14_readArg_97 rfl rfl ?_
              obtain ⟨hT, hF⟩ := h
              refine y_if_ne hC (pc := 98) 114 hy55_2 dX14_readArg_98 (by decide) (fun c => ?_) (fun c => ?_)
              · have h := hT c
                refine z_aload_n hC (pc := 114) 1 dX14_readArg_114 rfl rfl ?_
                refine y_get hC (pc := 115) zf14 rOb_0 7 (v := .ref (κ (rR σ 7))) dX14_readArg_115 zw2475 (rv_g rfl ((qs93.1.R rfl).trans ((qs85.1.R rfl).trans (kJ.R rfl))) g0) (kk := ?_)
                refine y_getN hC (pc := 118) zf13 (rOb_k g0) 5 (v := .ref (κ (1000 * ((rR σ 7) + 1) + 5))) dX14_readArg_118 zw2320 (rv_c rfl) (kk := ?_)
                refine z_iload_n hC (pc := 121) 3 dX14_readArg_121 rfl rfl ?_
                refine z_iload_n hC (pc := 122) 0 dX14_readArg_122 rfl rfl ?_
                obtain ⟨b56, h⟩ := h
                refine y_iast hC (pc := 123) (rAr_k g0 rfl rfl) dX14_readArg_123 b56 (v := v93) (kk := ?_)
                have W57 := Ws93.sA (p := (1000 * ((rR σ 7) + 1) + 5)) (i := y55_2) (x := v93) hv93
                refine z_iload_n hC (pc := 124) 0 dX14_readArg_124 rfl rfl ?_
                refine z_istore_n hC (pc := 125) (lv' := [(2, iv v93), (3, iv v93), (0, .ref (κ 0)), (1, iv y55_1)]) dX14_readArg_125 rfl (by decide) rfl ?_
                refine z_aload_n hC (pc := 126) 2 dX14_readArg_126 rfl rfl ?_
                obtain ⟨p58, h⟩ := h
                refine y_callVv hC (pc := 127) (As := []) (kX14_blanks l G κ (sT s93 (rR σ 7) 5 y55_2 v93)  W57  p58) dmX14_blanks zf14 rOb_0 dX14_readArg_127 zw3119 rfl rfl (Nat.le_of_ble_eq_true rfl) (Nat.le_of_ble_eq_true rfl) (by omega) (by omega) (Nat.le_of_ble_eq_true rfl) (kk := fun s127 Ws127 qs127 => ?_)
                have h := h s127 Ws127 (rNMp.keep qs127.1 rfl rfl rfl rfl rfl) (TPRp.keep qs127.1 rfl rfl rfl) (WNp.keep qs127.1 rfl rfl rfl rfl rfl) (PNp.keep qs127.1 rfl rfl rfl rfl rfl) (CCp.keep qs127.1 rfl rfl rfl rfl rfl rfl rfl) (qs127.1.R rfl) (qs127.1.F rfl) (qs127.1.F rfl) (qs127.1.F rfl) (qs127.1.F rfl) (qs127.1.F rfl) (qs127.1.F rfl) (qs127.1.F rfl) (qs127.1.F rfl) (qs127.1.F rfl) (qs127.1.F rfl) (fun i => qs127.1.A (f := 26) (by decide) rfl) (qs127.1.FG g0 rfl) (qs127.1.FG g0 rfl) (qs127.1.FG g0 rfl) (qs127.1.FG g0 rfl) (qs127.1.FG g0 rfl) (fz_keep qs127.1 rfl) (RG.keep (c0 := 0) qs127.1 rfl rfl rfl rfl rfl rfl rfl rfl rfl rfl rfl rfl rfl rfl rfl rfl rfl rfl) qs127.2
                refine z_goto hC (pc := 130) 55 dX14_readArg_130 (by decide) ?_
                refine z_lvs [2, 3, 0] rfl ?_
                obtain ⟨hI, hm⟩ := h
                exact ih55 s127 y55_1 v93 Ws127 hy55_1 hv93 (rKeep.tr (rKeep.tr (rKeep.tr (rKeep.tr (rKeep.tr (rKeep.tr rKeep.rf kJ rfl rfl rfl rfl rfl) (rKeep.sF0 (f := 29)) rfl rfl rfl rfl rfl) qs85.1 rfl rfl rfl rfl rfl) qs93.1 rfl rfl rfl rfl rfl) (rKeep.sAk (f := 5) g0 (by decide)) rfl rfl rfl rfl rfl) qs127.1 rfl rfl rfl rfl rfl) hI (by omega)
              · have h := hF c
                refine z_aload_n hC (pc := 101) 1 dX14_readArg_101 rfl rfl ?_
                refine y_get hC (pc := 102) zf14 rOb_0 7 (v := .ref (κ (rR σ 7))) dX14_readArg_102 zw2475 (rv_g rfl ((qs93.1.R rfl).trans ((qs85.1.R rfl).trans (kJ.R rfl))) g0) (kk := ?_)
                refine y_getN hC (pc := 105) zf13 (rOb_k g0) 3 (v := .ref (κ (1000 * ((rR σ 7) + 1) + 3))) dX14_readArg_105 zw2316 (rv_c rfl) (kk := ?_)
                refine z_iload_n hC (pc := 108) 2 dX14_readArg_108 rfl rfl ?_
                refine z_iload_n hC (pc := 109) 0 dX14_readArg_109 rfl rfl ?_
                obtain ⟨b59, h⟩ := h
                refine y_iast hC (pc := 110) (rAr_k g0 rfl rfl) dX14_readArg_110 b59 (v := v93) (kk := ?_)
                have W60 := Ws93.sA (p := (1000 * ((rR σ 7) + 1) + 3)) (i := y55_1) (x := v93) hv93
                refine z_goto hC (pc := 111) 124 dX14_readArg_111 (by decide) ?_
                refine z_iload_n hC (pc := 124) 0 dX14_readArg_124 rfl rfl ?_
                refine z_istore_n hC (pc := 125) (lv' := [(2, iv v93), (3, iv v93), (0, .ref (κ 0)), (1, iv y55_1)]) dX14_readArg_125 rfl (by decide) rfl ?_
                refine z_aload_n hC (pc := 126) 2 dX14_readArg_126 rfl rfl ?_
                obtain ⟨p61, h⟩ := h
                refine y_callVv hC (pc := 127) (As := []) (kX14_blanks l G κ (sT s93 (rR σ 7) 3 y55_1 v93)  W60  p61) dmX14_blanks zf14 rOb_0 dX14_readArg_127 zw3119 rfl rfl (Nat.le_of_ble_eq_true rfl) (Nat.le_of_ble_eq_true rfl) (by omega) (by omega) (Nat.le_of_ble_eq_true rfl) (kk := fun s127 Ws127 qs127 => ?_)
                have h := h s127 Ws127 (rNMp.keep qs127.1 rfl rfl rfl rfl rfl) (TPRp.keep qs127.1 rfl rfl rfl) (WNp.keep qs127.1 rfl rfl rfl rfl rfl) (PNp.keep qs127.1 rfl rfl rfl rfl rfl) (CCp.keep qs127.1 rfl rfl rfl rfl rfl rfl rfl) (qs127.1.R rfl) (qs127.1.F rfl) (qs127.1.F rfl) (qs127.1.F rfl) (qs127.1.F rfl) (qs127.1.F rfl) (qs127.1.F rfl) (qs127.1.F rfl) (qs127.1.F rfl) (qs127.1.F rfl) (qs127.1.F rfl) (fun i => qs127.1.A (f := 26) (by decide) rfl) (qs127.1.FG g0 rfl) (qs127.1.FG g0 rfl) (qs127.1.FG g0 rfl) (qs127.1.FG g0 rfl) (qs127.1.FG g0 rfl) (fz_keep qs127.1 rfl) (RG.keep (c0 := 0) qs127.1 rfl rfl rfl rfl rfl rfl rfl rfl rfl rfl rfl rfl rfl rfl rfl rfl rfl rfl) qs127.2
                refine z_goto hC (pc := 130) 55 dX14_readArg_130 (by decide) ?_
                refine z_lvs [2, 3, 0] rfl ?_
                obtain ⟨hI, hm⟩ := h
                exact ih55 s127 y55_1 v93 Ws127 hy55_1 hv93 (rKeep.tr (rKeep.tr (rKeep.tr (rKeep.tr (rKeep.tr (rKeep.tr rKeep.rf kJ rfl rfl rfl rfl rfl) (rKeep.sF0 (f := 29)) rfl rfl rfl rfl rfl) qs85.1 rfl rfl rfl rfl rfl) qs93.1 rfl rfl rfl rfl rfl) (rKeep.sAk (f := 3) g0 (by decide)) rfl rfl rfl rfl rfl) qs127.1 rfl rfl rfl rfl rfl) hI (by omega)
      refine z_lvs [2, 1, 0] rfl ?_
      exact j55 _ s52 v45 0 Ws52 hv45 (r_lit rfl) (rKeep.tr (rKeep.tr (rKeep.tr (rKeep.tr (rKeep.tr rKeep.rf qs1.1 rfl rfl rfl rfl rfl) qs31.1 rfl rfl rfl rfl rfl) (rKeep.sF0 (f := 31)) rfl rfl rfl rfl rfl) qs45.1 rfl rfl rfl rfl rfl) qs52.1 rfl rfl rfl rfl rfl) h (Nat.le_refl _)
  · have h := hF c
    refine z_iconst hC (pc := 11) (v := Int32.ofInt 0) dX14_readArg_11 (by decide) ?_
    exact y_reti hR dX14_readArg_12 rfl (r_lit rfl) Ws1 (Nat.le_of_ble_eq_true rfl) (Nat.le_of_ble_eq_true rfl) ⟨(rKeep.tr rKeep.rf qs1.1 rfl rfl rfl rfl rfl), h⟩
theorem kX14_readArg (l : Launch) (G : zG) (κ : Nat → Nat) (n : Nat) (ih : Q_rd l G κ n) (σ : rS) (gg : Nat) (g : Nat → Int → Int) (hwf : rWF σ) (hp : pre_X14_readArg σ gg g) (hr : rk_X14_readArg σ gg g ≤ n + 1) : rMi l G κ yX14_readArg cX14_readArg 4 .int (n + 1 + 100) ((n + 1) * 40 + 3600) [.ref (κ 0)] σ (fun x s => rKeep 0x6c0a3001c00 0x4100001280 0x13c00000000 0x3ee0000d7f 0 σ s ∧ post_X14_readArg σ gg g x s) := wX14_readArg l G κ n ih σ gg g hwf (post_X14_readArg σ gg g) (vX14_readArg n σ gg g hwf hp hr) (vX14_readArg_55 n σ gg g hwf hp hr) (vX14_readArg_55m n σ gg g hwf hp hr)
theorem wX14_readRow (l : Launch) (G : zG) (κ : Nat → Nat) (n : Nat) (ih : Q_rd l G κ n) (σ : rS) (gg : Nat) (g : Nat → Int → Int) (hwf : rWF σ) (Q : Int → rS → Prop) (h : VC_X14_readRow n σ gg g Q) (h_132 : VC_X14_readRow_132 n σ gg g Q) (h_52 : VC_X14_readRow_52 n σ gg g Q) (h_52m : VC_X14_readRow_52m n σ gg g) : rMi l G κ yX14_readRow cX14_readRow 5 .int (n + 1 + 100) ((n + 1) * 40 + 3600) [.ref (κ 0)] σ (fun x s => rKeep 0x6c0a3001c00 0x4100001280 0x13c00000000 0x3ee0000d7f 0 σ s ∧ Q x s) := by
  refine zMi.intro (by decide +kernel) (Nat.le_of_ble_eq_true rfl) (fun X hC hR => ?_)
  obtain ⟨g0, h⟩ := h
  refine z_aload_n hC (pc := 0) 0 dX14_readRow_0 rfl rfl ?_
  refine z_bipush hC (pc := 1) (v := Int32.ofInt 34) dX14_readRow_1 (by decide) ?_
  refine z_iconst hC (pc := 3) (v := Int32.ofInt 0) dX14_readRow_3 (by decide) ?_
  refine z_iconst hC (pc := 4) (v := Int32.ofInt 0) dX14_readRow_4 (by decide) ?_
  refine z_aload_n hC (pc := 5) 0 dX14_readRow_5 rfl rfl ?_
  obtain ⟨p10, h⟩ := h
  refine y_callVi hC (pc := 6) (As := []) (kX14_place l G κ σ  hwf  p10) dmX14_place zf14 rOb_0 dX14_readRow_6 zw3103 rfl rfl (Nat.le_of_ble_eq_true rfl) (Nat.le_of_ble_eq_true rfl) (by omega) (by omega) (Nat.le_of_ble_eq_true rfl) (kk := fun v6 s6 hv6 Ws6 qs6 => ?_)
  obtain ⟨es6, qs6⟩ := qs6
  have es6 := es6.symm
  subst es6
  have h := h v6 hv6 qs6
  obtain ⟨p11, h⟩ := h
  refine y_callVi hC (pc := 9) (As := [iv 34, iv 0, iv 0, iv v6]) (kX14_node_t l G κ σ 34 0 0 v6 gg hwf (r_lit rfl) (r_lit rfl) (r_lit rfl) hv6 p11) dmX14_node zf14 rOb_0 dX14_readRow_9 zw3170 rfl rfl (Nat.le_of_ble_eq_true rfl) (Nat.le_of_ble_eq_true rfl) (by omega) (by omega) (Nat.le_of_ble_eq_true rfl) (kk := fun v9 s9 hv9 Ws9 qs9 => ?_)
  have h := h v9 s9 hv9 Ws9 (rNMp.keep qs9.1 rfl rfl rfl rfl rfl) (TPRp.keep qs9.1 rfl rfl rfl) (WNp.keep qs9.1 rfl rfl rfl rfl rfl) (CCp.keep qs9.1 rfl rfl rfl rfl rfl rfl rfl) (qs9.1.R rfl) (qs9.1.F rfl) (qs9.1.F rfl) (qs9.1.F rfl) (qs9.1.F rfl) (qs9.1.F rfl) (qs9.1.F rfl) (qs9.1.F rfl) (qs9.1.F rfl) (qs9.1.F rfl) (qs9.1.F rfl) (qs9.1.F rfl) (fun i => qs9.1.A (f := 26) (by decide) rfl) (qs9.1.FG g0 rfl) (qs9.1.FG g0 rfl) (qs9.1.FG g0 rfl) (qs9.1.FG g0 rfl) (fz_keep qs9.1 rfl) qs9.2
  refine z_istore_n hC (pc := 12) (lv' := [(1, iv v9), (0, .ref (κ 0))]) dX14_readRow_12 rfl (by decide) rfl ?_
  refine z_aload_n hC (pc := 13) 1 dX14_readRow_13 rfl rfl ?_
  refine z_dup hC (pc := 14) dX14_readRow_14 rfl ?_
  refine y_get hC (pc := 15) zf14 rOb_0 29 (v := iv (rF σ 0 29)) dX14_readRow_15 zw2496 (rv_i (Or.inl rfl) ((qs9.1.F rfl).trans rfl)) (kk := ?_)
  have h := h (hwf.f _ _)
  refine z_iconst hC (pc := 18) (v := Int32.ofInt 1) dX14_readRow_18 (by decide) ?_
  refine y_iadd hC (pc := 19) (v := ((rF σ 0 29) + 1)) dX14_readRow_19 rfl ?_
  obtain ⟨r12, h⟩ := h
  refine y_putI hC (pc := 20) zf14 rOb_0 29 (x := ((rF σ 0 29) + 1)) dX14_readRow_20 zw2496 (Or.inl rfl) rfl rfl (kk := ?_)
  have W13 := Ws9.sF (q := 0) (f := 29) (x := ((rF σ 0 29) + 1)) r12
  refine z_aload_n hC (pc := 23) 1 dX14_readRow_23 rfl rfl ?_
  obtain ⟨p14, h⟩ := h
  refine y_callVv hC (pc := 24) (As := []) (kX14_blanks l G κ (sF s9 0 29 ((rF σ 0 29) + 1))  W13  p14) dmX14_blanks zf14 rOb_0 dX14_readRow_24 zw3119 rfl rfl (Nat.le_of_ble_eq_true rfl) (Nat.le_of_ble_eq_true rfl) (by omega) (by omega) (Nat.le_of_ble_eq_true rfl) (kk := fun s24 Ws24 qs24 => ?_)
  have h := h s24 Ws24 (rNMp.keep qs24.1 rfl rfl rfl rfl rfl) (TPRp.keep qs24.1 rfl rfl rfl) (WNp.keep qs24.1 rfl rfl rfl rfl rfl) (PNp.keep qs24.1 rfl rfl rfl rfl rfl) (CCp.keep qs24.1 rfl rfl rfl rfl rfl rfl rfl) (qs24.1.R rfl) (qs24.1.F rfl) (qs24.1.F rfl) (qs24.1.F rfl) (qs24.1.F rfl) (qs24.1.F rfl) (qs24.1.F rfl) (qs24.1.F rfl) (qs24.1.F rfl) (qs24.1.F rfl) (qs24.1.F rfl) (fun i => qs24.1.A (f := 26) (by decide) rfl) (qs24.1.FG g0 rfl) (qs24.1.FG g0 rfl) (qs24.1.FG g0 rfl) (qs24.1.FG g0 rfl) (qs24.1.FG g0 rfl) (fz_keep qs24.1 rfl) (RG.keep (c0 := 0) qs24.1 rfl rfl rfl rfl rfl rfl rfl rfl rfl rfl rfl rfl rfl rfl rfl rfl rfl rfl) qs24.2
  refine z_aload_n hC (pc := 27) 1 dX14_readRow_27 rfl rfl ?_
  obtain ⟨p15, h⟩ := h
  refine y_callVi hC (pc := 28) (As := []) (kX14_here l G κ s24  Ws24  p15) dmX14_here zf14 rOb_0 dX14_readRow_28 zw3099 rfl rfl (Nat.le_of_ble_eq_true rfl) (Nat.le_of_ble_eq_true rfl) (by omega) (by omega) (Nat.le_of_ble_eq_true rfl) (kk := fun v28 s28 hv28 Ws28 qs28 => ?_)
  obtain ⟨es28, qs28⟩ := qs28
  have es28 := es28.symm
  subst es28
  have h := h v28 hv28 qs28
  refine z_bipush hC (pc := 31) (v := Int32.ofInt 93) dX14_readRow_31 (by decide) ?_
  obtain ⟨hT, hF⟩ := h
  refine y_icmp_ne hC (pc := 33) 48 hv28 (r_lit rfl) dX14_readRow_33 (by decide) (fun c => ?_) (fun c => ?_)
  · have h := hT c
    refine z_iconst hC (pc := 48) (v := Int32.ofInt 0) dX14_readRow_48 (by decide) ?_
    refine z_istore_n hC (pc := 49) (lv' := [(2, iv 0), (1, iv v9), (0, .ref (κ 0))]) dX14_readRow_49 rfl (by decide) rfl ?_
    refine z_iconst hC (pc := 50) (v := Int32.ofInt 1) dX14_readRow_50 (by decide) ?_
    refine z_istore_n hC (pc := 51) (lv' := [(3, iv 1), (2, iv 0), (1, iv v9), (0, .ref (κ 0))]) dX14_readRow_51 rfl (by decide) rfl ?_
    have j52 : ∀ (d52 : Nat), ∀ (s52 : rS) (y52_1 : Int) (y52_2 : Int) (y52_3 : Int), rWF s52 → rng y52_1 → rng y52_2 → rng y52_3 → rKeep 0x6c0a3001c00 0x4100001280 0x13c00000000 0x3ee0000d7f 0 σ s52 → inv_X14_readRow_52 σ gg g s52 y52_1 y52_2 y52_3 → (mu_X14_readRow_52 σ gg g s52 y52_1 y52_2 y52_3) ≤ d52 → zS X G 5 (rW G κ s52) [(0, .ref (κ 0)), (1, iv y52_1), (2, iv y52_2), (3, iv y52_3)] 0 0 52 [] := by
      intro d52
      induction d52 with
      | zero =>
        intro s52 y52_1 y52_2 y52_3 Ws52 hy52_1 hy52_2 hy52_3 kJ hI hmu
        exact absurd hmu (by have := h_52m  s52 y52_1 y52_2 y52_3 Ws52 hy52_1 hy52_2 hy52_3 (TPRp.keep kJ rfl rfl rfl) (CCp.keep kJ rfl rfl rfl rfl rfl rfl rfl) (kJ.R rfl) (kJ.F rfl) (kJ.F rfl) (kJ.F rfl) (kJ.F rfl) (kJ.F rfl) (kJ.F rfl) (fun i => kJ.A (f := 26) (by decide) rfl) hI; omega)
      | succ d52 ih52 =>
        intro s52 y52_1 y52_2 y52_3 Ws52 hy52_1 hy52_2 hy52_3 kJ hI hmu52
        have h := h_52  s52 y52_1 y52_2 y52_3 Ws52 hy52_1 hy52_2 hy52_3 (TPRp.keep kJ rfl rfl rfl) (CCp.keep kJ rfl rfl rfl rfl rfl rfl rfl) (kJ.R rfl) (kJ.F rfl) (kJ.F rfl) (kJ.F rfl) (kJ.F rfl) (kJ.F rfl) (kJ.F rfl) (fun i => kJ.A (f := 26) (by decide) rfl) hI
        refine z_iload_n hC (pc := 52) 3 dX14_readRow_52 rfl rfl ?_
        obtain ⟨hT, hF⟩ := h
        refine y_if_eq hC (pc := 53) 171 hy52_3 dX14_readRow_53 (by decide) (fun c => ?_) (fun c => ?_)
        · have h := hT c
          refine z_aload_n hC (pc := 171) 0 dX14_readRow_171 rfl rfl ?_
          refine z_bipush hC (pc := 172) (v := Int32.ofInt 93) dX14_readRow_172 (by decide) ?_
          obtain ⟨p16, h⟩ := h
          refine y_callVv hC (pc := 174) (As := [iv 93]) (kX14_need l G κ s52 93 Ws52 (r_lit rfl) p16) dmX14_need zf14 rOb_0 dX14_readRow_174 zw3136 rfl rfl (Nat.le_of_ble_eq_true rfl) (Nat.le_of_ble_eq_true rfl) (by omega) (by omega) (Nat.le_of_ble_eq_true rfl) (kk := fun s174 Ws174 qs174 => ?_)
          have h := h s174 Ws174 (rNMp.keep qs174.1 rfl rfl rfl rfl rfl) (TPRp.keep qs174.1 rfl rfl rfl) (WNp.keep qs174.1 rfl rfl rfl rfl rfl) (PNp.keep qs174.1 rfl rfl rfl rfl rfl) (CCp.keep qs174.1 rfl rfl rfl rfl rfl rfl rfl) (qs174.1.R rfl) (qs174.1.F rfl) (qs174.1.F rfl) (qs174.1.F rfl) (qs174.1.F rfl) (qs174.1.F rfl) (qs174.1.F rfl) (qs174.1.F rfl) (qs174.1.F rfl) (qs174.1.F rfl) (fun i => qs174.1.A (f := 26) (by decide) rfl) (qs174.1.FG g0 rfl) (qs174.1.FG g0 rfl) (qs174.1.FG g0 rfl) (qs174.1.FG g0 rfl) (qs174.1.FG g0 rfl) (RG.keep (c0 := 0) qs174.1 rfl rfl rfl rfl rfl rfl rfl rfl rfl rfl rfl rfl rfl rfl rfl rfl rfl rfl) qs174.2
          refine z_iload_n hC (pc := 177) 1 dX14_readRow_177 rfl rfl ?_
          exact y_reti hR dX14_readRow_178 rfl hy52_1 Ws174 (Nat.le_of_ble_eq_true rfl) (Nat.le_of_ble_eq_true rfl) ⟨(rKeep.tr (rKeep.tr rKeep.rf kJ rfl rfl rfl rfl rfl) qs174.1 rfl rfl rfl rfl rfl), h⟩
        · have h := hF c
          refine z_aload_n hC (pc := 56) 0 dX14_readRow_56 rfl rfl ?_
          refine y_get hC (pc := 57) zf14 rOb_0 10 (v := iv (rF s52 0 10)) dX14_readRow_57 zw2478 (rv_i (Or.inl rfl) rfl) (kk := ?_)
          have h := h (Ws52.f _ _)
          obtain ⟨hT, hF⟩ := h
          refine y_if_ne hC (pc := 60) 171 (Ws52.f _ _) dX14_readRow_60 (by decide) (fun c => ?_) (fun c => ?_)
          · have h := hT c
            refine z_aload_n hC (pc := 171) 0 dX14_readRow_171 rfl rfl ?_
            refine z_bipush hC (pc := 172) (v := Int32.ofInt 93) dX14_readRow_172 (by decide) ?_
            obtain ⟨p17, h⟩ := h
            refine y_callVv hC (pc := 174) (As := [iv 93]) (kX14_need l G κ s52 93 Ws52 (r_lit rfl) p17) dmX14_need zf14 rOb_0 dX14_readRow_174 zw3136 rfl rfl (Nat.le_of_ble_eq_true rfl) (Nat.le_of_ble_eq_true rfl) (by omega) (by omega) (Nat.le_of_ble_eq_true rfl) (kk := fun s174 Ws174 qs174 => ?_)
            have h := h s174 Ws174 (rNMp.keep qs174.1 rfl rfl rfl rfl rfl) (TPRp.keep qs174.1 rfl rfl rfl) (WNp.keep qs174.1 rfl rfl rfl rfl rfl) (PNp.keep qs174.1 rfl rfl rfl rfl rfl) (CCp.keep qs174.1 rfl rfl rfl rfl rfl rfl rfl) (qs174.1.R rfl) (qs174.1.F rfl) (qs174.1.F rfl) (qs174.1.F rfl) (qs174.1.F rfl) (qs174.1.F rfl) (qs174.1.F rfl) (qs174.1.F rfl) (qs174.1.F rfl) (qs174.1.F rfl) (fun i => qs174.1.A (f := 26) (by decide) rfl) (qs174.1.FG g0 rfl) (qs174.1.FG g0 rfl) (qs174.1.FG g0 rfl) (qs174.1.FG g0 rfl) (qs174.1.FG g0 rfl) (RG.keep (c0 := 0) qs174.1 rfl rfl rfl rfl rfl rfl rfl rfl rfl rfl rfl rfl rfl rfl rfl rfl rfl rfl) qs174.2
            refine z_iload_n hC (pc := 177) 1 dX14_readRow_177 rfl rfl ?_
            exact y_reti hR dX14_readRow_178 rfl hy52_1 Ws174 (Nat.le_of_ble_eq_true rfl) (Nat.le_of_ble_eq_true rfl) ⟨(rKeep.tr (rKeep.tr rKeep.rf kJ rfl rfl rfl rfl rfl) qs174.1 rfl rfl rfl rfl rfl), h⟩
          · have h := hF c
            refine z_aload_n hC (pc := 63) 0 dX14_readRow_63 rfl rfl ?_
            obtain ⟨p18, h⟩ := h
            refine y_callVv hC (pc := 64) (As := []) (kX14_blanks l G κ s52  Ws52  p18) dmX14_blanks zf14 rOb_0 dX14_readRow_64 zw3119 rfl rfl (Nat.le_of_ble_eq_true rfl) (Nat.le_of_ble_eq_true rfl) (by omega) (by omega) (Nat.le_of_ble_eq_true rfl) (kk := fun s64 Ws64 qs64 => ?_)
            have h := h s64 Ws64 (rNMp.keep qs64.1 rfl rfl rfl rfl rfl) (TPRp.keep qs64.1 rfl rfl rfl) (WNp.keep qs64.1 rfl rfl rfl rfl rfl) (PNp.keep qs64.1 rfl rfl rfl rfl rfl) (CCp.keep qs64.1 rfl rfl rfl rfl rfl rfl rfl) (qs64.1.R rfl) (qs64.1.F rfl) (qs64.1.F rfl) (qs64.1.F rfl) (qs64.1.F rfl) (qs64.1.F rfl) (qs64.1.F rfl) (qs64.1.F rfl) (qs64.1.F rfl) (qs64.1.F rfl) (qs64.1.F rfl) (fun i => qs64.1.A (f := 26) (by decide) rfl) (qs64.1.FG g0 rfl) (qs64.1.FG g0 rfl) (qs64.1.FG g0 rfl) (qs64.1.FG g0 rfl) (qs64.1.FG g0 rfl) (fz_keep qs64.1 rfl) (RG.keep (c0 := 0) qs64.1 rfl rfl rfl rfl rfl rfl rfl rfl rfl rfl rfl rfl rfl rfl rfl rfl rfl rfl) qs64.2
            refine z_aload_n hC (pc := 67) 0 dX14_readRow_67 rfl rfl ?_
            refine z_bipush hC (pc := 68) (v := Int32.ofInt 59) dX14_readRow_68 (by decide) ?_
            refine z_aload_n hC (pc := 70) 0 dX14_readRow_70 rfl rfl ?_
            obtain ⟨p19, h⟩ := h
            refine y_callVi hC (pc := 71) (As := []) (kX14_here l G κ s64  Ws64  p19) dmX14_here zf14 rOb_0 dX14_readRow_71 zw3099 rfl rfl (Nat.le_of_ble_eq_true rfl) (Nat.le_of_ble_eq_true rfl) (by omega) (by omega) (Nat.le_of_ble_eq_true rfl) (kk := fun v71 s71 hv71 Ws71 qs71 => ?_)
            obtain ⟨es71, qs71⟩ := qs71
            have es71 := es71.symm
            subst es71
            have h := h v71 hv71 qs71
            refine z_bipush hC (pc := 74) (v := Int32.ofInt 44) dX14_readRow_74 (by decide) ?_
            obtain ⟨hT, hF⟩ := h
            refine y_icmp_eq hC (pc := 76) 88 hv71 (r_lit rfl) dX14_readRow_76 (by decide) (fun c => ?_) (fun c => ?_)
            · have h := hT c
              refine z_iconst hC (pc := 88) (v := Int32.ofInt 0) dX14_readRow_88 (by decide) ?_
              refine z_goto hC (pc := 89) 96 dX14_readRow_89 (by decide) ?_
              refine z_iconst hC (pc := 96) (v := Int32.ofInt 0) dX14_readRow_96 (by decide) ?_
              refine z_iconst hC (pc := 97) (v := Int32.ofInt 0) dX14_readRow_97 (by decide) ?_
              obtain ⟨p20, h⟩ := h
              refine y_callVi hC (pc := 98) (As := [iv 59, iv 0, iv 0, iv 0]) (kX14_node_t l G κ s64 59 0 0 0 gg Ws64 (r_lit rfl) (r_lit rfl) (r_lit rfl) (r_lit rfl) p20) dmX14_node zf14 rOb_0 dX14_readRow_98 zw3170 rfl rfl (Nat.le_of_ble_eq_true rfl) (Nat.le_of_ble_eq_true rfl) (by omega) (by omega) (Nat.le_of_ble_eq_true rfl) (kk := fun v98 s98 hv98 Ws98 qs98 => ?_)
              have h := h v98 s98 hv98 Ws98 (rNMp.keep qs98.1 rfl rfl rfl rfl rfl) (TPRp.keep qs98.1 rfl rfl rfl) (WNp.keep qs98.1 rfl rfl rfl rfl rfl) (CCp.keep qs98.1 rfl rfl rfl rfl rfl rfl rfl) (qs98.1.R rfl) (qs98.1.F rfl) (qs98.1.F rfl) (qs98.1.F rfl) (qs98.1.F rfl) (qs98.1.F rfl) (qs98.1.F rfl) (qs98.1.F rfl) (qs98.1.F rfl) (qs98.1.F rfl) (qs98.1.F rfl) (qs98.1.F rfl) (fun i => qs98.1.A (f := 26) (by decide) rfl) (qs98.1.FG g0 rfl) (qs98.1.FG g0 rfl) (qs98.1.FG g0 rfl) (qs98.1.FG g0 rfl) (fz_keep qs98.1 rfl) qs98.2
              refine z_istore hC (pc := 101) (lv' := [(4, iv v98), (0, .ref (κ 0)), (1, iv y52_1), (2, iv y52_2), (3, iv y52_3)]) dX14_readRow_101 (by decide) rfl ?_
              refine z_iload_n hC (pc := 103) 3 dX14_readRow_103 rfl rfl ?_
              have j132 : ∀ (s132 : rS) (y132_1 : Int) (y132_4 : Int), rWF s132 → rng y132_1 → rng y132_4 → rKeep 0x6c0a3001c00 0x4100001280 0x13c00000000 0x3ee0000d7f 0 σ s132 → inv_X14_readRow_132 σ gg g (mu_X14_readRow_52 σ gg g s52 y52_1 y52_2 y52_3) s132 y132_1 y132_4 → zS X G 5 (rW G κ s132) [(0, .ref (κ 0)), (1, iv y132_1), (4, iv y132_4)] 0 0 132 [] := by
                intro s132 y132_1 y132_4 Ws132 hy132_1 hy132_4 kJ hI
                have h := h_132 (mu_X14_readRow_52 σ gg g s52 y52_1 y52_2 y52_3) s132 y132_1 y132_4 Ws132 hy132_1 hy132_4 (TPRp.keep kJ rfl rfl rfl) (CCp.keep kJ rfl rfl rfl rfl rfl rfl rfl) (kJ.R rfl) (kJ.F rfl) (kJ.F rfl) (kJ.F rfl) (kJ.F rfl) (kJ.F rfl) (kJ.F rfl) (fun i => kJ.A (f := 26) (by decide) rfl) hI
                refine z_iload hC (pc := 132) 2 dX14_readRow_132 rfl ?_
                refine z_istore_n hC (pc := 134) (lv' := [(2, iv y132_4), (0, .ref (κ 0)), (1, iv y132_1), (4, iv y132_4)]) dX14_readRow_134 rfl (by decide) rfl ?_
                refine z_aload_n hC (pc := 135) 1 dX14_readRow_135 rfl rfl ?_
                obtain ⟨p21, h⟩ := h
                refine y_callVv hC (pc := 136) (As := []) (kX14_blanks l G κ s132  Ws132  p21) dmX14_blanks zf14 rOb_0 dX14_readRow_136 zw3119 rfl rfl (Nat.le_of_ble_eq_true rfl) (Nat.le_of_ble_eq_true rfl) (by omega) (by omega) (Nat.le_of_ble_eq_true rfl) (kk := fun s136 Ws136 qs136 => ?_)
                have h := h s136 Ws136 (rNMp.keep qs136.1 rfl rfl rfl rfl rfl) (TPRp.keep qs136.1 rfl rfl rfl) (WNp.keep qs136.1 rfl rfl rfl rfl rfl) (PNp.keep qs136.1 rfl rfl rfl rfl rfl) (CCp.keep qs136.1 rfl rfl rfl rfl rfl rfl rfl) (qs136.1.R rfl) (qs136.1.F rfl) (qs136.1.F rfl) (qs136.1.F rfl) (qs136.1.F rfl) (qs136.1.F rfl) (qs136.1.F rfl) (qs136.1.F rfl) (qs136.1.F rfl) (qs136.1.F rfl) (qs136.1.F rfl) (fun i => qs136.1.A (f := 26) (by decide) rfl) (qs136.1.FG g0 rfl) (qs136.1.FG g0 rfl) (qs136.1.FG g0 rfl) (qs136.1.FG g0 rfl) (qs136.1.FG g0 rfl) (fz_keep qs136.1 rfl) (RG.keep (c0 := 0) qs136.1 rfl rfl rfl rfl rfl rfl rfl rfl rfl rfl rfl rfl rfl rfl rfl rfl rfl rfl) qs136.2
                refine z_aload_n hC (pc := 139) 1 dX14_readRow_139 rfl rfl ?_
                obtain ⟨p22, h⟩ := h
                refine y_callVi hC (pc := 140) (As := []) (kX14_here l G κ s136  Ws136  p22) dmX14_here zf14 rOb_0 dX14_readRow_140 zw3099 rfl rfl (Nat.le_of_ble_eq_true rfl) (Nat.le_of_ble_eq_true rfl) (by omega) (by omega) (Nat.le_of_ble_eq_true rfl) (kk := fun v140 s140 hv140 Ws140 qs140 => ?_)
                obtain ⟨es140, qs140⟩ := qs140
                have es140 := es140.symm
                subst es140
                have h := h v140 hv140 qs140
                refine z_bipush hC (pc := 143) (v := Int32.ofInt 44) dX14_readRow_143 (by decide) ?_
                obtain ⟨hT, hF⟩ := h
                refine y_icmp_ne hC (pc := 145) 152 hv140 (r_lit rfl) dX14_readRow_145 (by decide) (fun c => ?_) (fun c => ?_)
                · have h := hT c
                  refine z_iconst hC (pc := 152) (v := Int32.ofInt 0) dX14_readRow_152 (by decide) ?_
                  refine z_istore_n hC (pc := 153) (lv' := [(3, iv 0), (2, iv y132_4), (0, .ref (κ 0)), (1, iv y132_1), (4, iv y132_4)]) dX14_readRow_153 rfl (by decide) rfl ?_
                  refine z_iload_n hC (pc := 154) 0 dX14_readRow_154 rfl rfl ?_
                  refine y_if_eq hC (pc := 155) 168 (r_lit rfl) dX14_readRow_155 (by decide) (fun _ => ?_) (fun c => absurd c (by decide))
                  refine z_goto hC (pc := 168) 52 dX14_readRow_168 (by decide) ?_
                  refine z_lvs [2, 3, 1, 0] rfl ?_
                  obtain ⟨hI, hm⟩ := h
                  exact ih52 s136 y132_1 y132_4 0 Ws136 hy132_1 hy132_4 (r_lit rfl) (rKeep.tr (rKeep.tr rKeep.rf kJ rfl rfl rfl rfl rfl) qs136.1 rfl rfl rfl rfl rfl) hI (by omega)
                · have h := hF c
                  refine z_iconst hC (pc := 148) (v := Int32.ofInt 1) dX14_readRow_148 (by decide) ?_
                  refine z_goto hC (pc := 149) 153 dX14_readRow_149 (by decide) ?_
                  refine z_istore_n hC (pc := 153) (lv' := [(3, iv 1), (2, iv y132_4), (0, .ref (κ 0)), (1, iv y132_1), (4, iv y132_4)]) dX14_readRow_153 rfl (by decide) rfl ?_
                  refine z_iload_n hC (pc := 154) 0 dX14_readRow_154 rfl rfl ?_
                  refine y_if_eq hC (pc := 155) 168 (r_lit rfl) dX14_readRow_155 (by decide) (fun c => absurd c (by decide)) (fun _ => ?_)
                  refine z_aload_n hC (pc := 158) 2 dX14_readRow_158 rfl rfl ?_
                  refine z_dup hC (pc := 159) dX14_readRow_159 rfl ?_
                  refine y_get hC (pc := 160) zf14 rOb_0 29 (v := iv (rF s136 0 29)) dX14_readRow_160 zw2496 (rv_i (Or.inl rfl) rfl) (kk := ?_)
                  have h := h (Ws136.f _ _)
                  refine z_iconst hC (pc := 163) (v := Int32.ofInt 1) dX14_readRow_163 (by decide) ?_
                  refine y_iadd hC (pc := 164) (v := ((rF s136 0 29) + 1)) dX14_readRow_164 rfl ?_
                  obtain ⟨r23, h⟩ := h
                  refine y_putI hC (pc := 165) zf14 rOb_0 29 (x := ((rF s136 0 29) + 1)) dX14_readRow_165 zw2496 (Or.inl rfl) rfl rfl (kk := ?_)
                  have W24 := Ws136.sF (q := 0) (f := 29) (x := ((rF s136 0 29) + 1)) r23
                  refine z_goto hC (pc := 168) 52 dX14_readRow_168 (by decide) ?_
                  refine z_lvs [2, 3, 1, 0] rfl ?_
                  obtain ⟨hI, hm⟩ := h
                  exact ih52 (sF s136 0 29 ((rF s136 0 29) + 1)) y132_1 y132_4 1 W24 hy132_1 hy132_4 (r_lit rfl) (rKeep.tr (rKeep.tr (rKeep.tr rKeep.rf kJ rfl rfl rfl rfl rfl) qs136.1 rfl rfl rfl rfl rfl) (rKeep.sF0 (f := 29)) rfl rfl rfl rfl rfl) hI (by omega)
              obtain ⟨hT, hF⟩ := h
              refine y_if_ne hC (pc := 104) 121 hy52_2 dX14_readRow_104 (by decide) (fun c => ?_) (fun c => ?_)
              · have h := hT c
                refine z_aload_n hC (pc := 121) 1 dX14_readRow_121 rfl rfl ?_
                refine y_get hC (pc := 122) zf14 rOb_0 7 (v := .ref (κ (rR σ 7))) dX14_readRow_122 zw2475 (rv_g rfl ((qs98.1.R rfl).trans ((qs64.1.R rfl).trans (kJ.R rfl))) g0) (kk := ?_)
                refine y_getN hC (pc := 125) zf13 (rOb_k g0) 5 (v := .ref (κ (1000 * ((rR σ 7) + 1) + 5))) dX14_readRow_125 zw2320 (rv_c rfl) (kk := ?_)
                refine z_iload_n hC (pc := 128) 3 dX14_readRow_128 rfl rfl ?_
                refine z_iload hC (pc := 129) 0 dX14_readRow_129 rfl ?_
                obtain ⟨b25, h⟩ := h
                refine y_iast hC (pc := 131) (rAr_k g0 rfl rfl) dX14_readRow_131 b25 (v := v98) (kk := ?_)
                have W26 := Ws98.sA (p := (1000 * ((rR σ 7) + 1) + 5)) (i := y52_2) (x := v98) hv98
                refine z_lvs [1, 2, 0] rfl ?_
                exact j132 (sT s98 (rR σ 7) 5 y52_2 v98) y52_1 v98 W26 hy52_1 hv98 (rKeep.tr (rKeep.tr (rKeep.tr (rKeep.tr rKeep.rf kJ rfl rfl rfl rfl rfl) qs64.1 rfl rfl rfl rfl rfl) qs98.1 rfl rfl rfl rfl rfl) (rKeep.sAk (f := 5) g0 (by decide)) rfl rfl rfl rfl rfl) h
              · have h := hF c
                refine z_aload_n hC (pc := 107) 1 dX14_readRow_107 rfl rfl ?_
                refine y_get hC (pc := 108) zf14 rOb_0 7 (v := .ref (κ (rR σ 7))) dX14_readRow_108 zw2475 (rv_g rfl ((qs98.1.R rfl).trans ((qs64.1.R rfl).trans (kJ.R rfl))) g0) (kk := ?_)
                refine y_getN hC (pc := 111) zf13 (rOb_k g0) 1 (v := .ref (κ (1000 * ((rR σ 7) + 1) + 1))) dX14_readRow_111 zw2312 (rv_c rfl) (kk := ?_)
                refine z_iload_n hC (pc := 114) 2 dX14_readRow_114 rfl rfl ?_
                refine z_iload hC (pc := 115) 0 dX14_readRow_115 rfl ?_
                obtain ⟨b27, h⟩ := h
                refine y_iast hC (pc := 117) (rAr_k g0 rfl rfl) dX14_readRow_117 b27 (v := v98) (kk := ?_)
                have W28 := Ws98.sA (p := (1000 * ((rR σ 7) + 1) + 1)) (i := y52_1) (x := v98) hv98
                refine z_goto hC (pc := 118) 132 dX14_readRow_118 (by decide) ?_
                refine z_lvs [1, 2, 0] rfl ?_
                exact j132 (sT s98 (rR σ 7) 1 y52_1 v98) y52_1 v98 W28 hy52_1 hv98 (rKeep.tr (rKeep.tr (rKeep.tr (rKeep.tr rKeep.rf kJ rfl rfl rfl rfl rfl) qs64.1 rfl rfl rfl rfl rfl) qs98.1 rfl rfl rfl rfl rfl) (rKeep.sAk (f := 1) g0 (by decide)) rfl rfl rfl rfl rfl) h
            · have h := hF c
              refine z_aload_n hC (pc := 79) 0 dX14_readRow_79 rfl rfl ?_
              obtain ⟨p29, h⟩ := h
              refine y_callVi hC (pc := 80) (As := []) (kX14_here l G κ s64  Ws64  p29) dmX14_here zf14 rOb_0 dX14_readRow_80 zw3099 rfl rfl (Nat.le_of_ble_eq_true rfl) (Nat.le_of_ble_eq_true rfl) (by omega) (by omega) (Nat.le_of_ble_eq_true rfl) (kk := fun v80 s80 hv80 Ws80 qs80 => ?_)
              obtain ⟨es80, qs80⟩ := qs80
              have es80 := es80.symm
              subst es80
              have h := h v80 hv80 qs80
              refine z_bipush hC (pc := 83) (v := Int32.ofInt 93) dX14_readRow_83 (by decide) ?_
              obtain ⟨hT, hF⟩ := h
              refine y_icmp_ne hC (pc := 85) 92 hv80 (r_lit rfl) dX14_readRow_85 (by decide) (fun c => ?_) (fun c => ?_)
              · have h := hT c
                refine z_aload_n hC (pc := 92) 0 dX14_readRow_92 rfl rfl ?_
                obtain ⟨g30, h⟩ := h
                obtain ⟨p31, h⟩ := h
                obtain ⟨p32, h⟩ := h
                refine y_callVi hC (pc := 93) (As := []) (qX14_readArg ih s64 gg g30 Ws64  p31 p32) dmX14_readArg zf14 rOb_0 dX14_readRow_93 zw3234 rfl rfl (Nat.le_of_ble_eq_true rfl) (Nat.le_of_ble_eq_true rfl) (by omega) (by omega) (Nat.le_of_ble_eq_true rfl) (kk := fun v93 s93 hv93 Ws93 qs93 => ?_)
                have h := h v93 s93 hv93 Ws93 (TPRp.keep qs93.1 rfl rfl rfl) (CCp.keep qs93.1 rfl rfl rfl rfl rfl rfl rfl) (qs93.1.R rfl) (qs93.1.F rfl) (qs93.1.F rfl) (qs93.1.F rfl) (qs93.1.F rfl) (qs93.1.F rfl) (qs93.1.F rfl) (fun i => qs93.1.A (f := 26) (by decide) rfl) qs93.2
                refine z_iconst hC (pc := 96) (v := Int32.ofInt 0) dX14_readRow_96 (by decide) ?_
                refine z_iconst hC (pc := 97) (v := Int32.ofInt 0) dX14_readRow_97 (by decide) ?_
                obtain ⟨p33, h⟩ := h
                refine y_callVi hC (pc := 98) (As := [iv 59, iv v93, iv 0, iv 0]) (kX14_node_t l G κ s93 59 v93 0 0 gg Ws93 (r_lit rfl) hv93 (r_lit rfl) (r_lit rfl) p33) dmX14_node zf14 rOb_0 dX14_readRow_98 zw3170 rfl rfl (Nat.le_of_ble_eq_true rfl) (Nat.le_of_ble_eq_true rfl) (by omega) (by omega) (Nat.le_of_ble_eq_true rfl) (kk := fun v98 s98 hv98 Ws98 qs98 => ?_)
                have h := h v98 s98 hv98 Ws98 (rNMp.keep qs98.1 rfl rfl rfl rfl rfl) (TPRp.keep qs98.1 rfl rfl rfl) (WNp.keep qs98.1 rfl rfl rfl rfl rfl) (CCp.keep qs98.1 rfl rfl rfl rfl rfl rfl rfl) (qs98.1.R rfl) (qs98.1.F rfl) (qs98.1.F rfl) (qs98.1.F rfl) (qs98.1.F rfl) (qs98.1.F rfl) (qs98.1.F rfl) (qs98.1.F rfl) (qs98.1.F rfl) (qs98.1.F rfl) (qs98.1.F rfl) (qs98.1.F rfl) (fun i => qs98.1.A (f := 26) (by decide) rfl) (qs98.1.FG g0 rfl) (qs98.1.FG g0 rfl) (qs98.1.FG g0 rfl) (qs98.1.FG g0 rfl) (fz_keep qs98.1 rfl) qs98.2
                refine z_istore hC (pc := 101) (lv' := [(4, iv v98), (0, .ref (κ 0)), (1, iv y52_1), (2, iv y52_2), (3, iv y52_3)]) dX14_readRow_101 (by decide) rfl ?_
                refine z_iload_n hC (pc := 103) 3 dX14_readRow_103 rfl rfl ?_
                have j132 : ∀ (s132 : rS) (y132_1 : Int) (y132_4 : Int), rWF s132 → rng y132_1 → rng y132_4 → rKeep 0x6c0a3001c00 0x4100001280 0x13c00000000 0x3ee0000d7f 0 σ s132 → inv_X14_readRow_132 σ gg g (mu_X14_readRow_52 σ gg g s52 y52_1 y52_2 y52_3) s132 y132_1 y132_4 → zS X G 5 (rW G κ s132) [(0, .ref (κ 0)), (1, iv y132_1), (4, iv y132_4)] 0 0 132 [] := by
                  intro s132 y132_1 y132_4 Ws132 hy132_1 hy132_4 kJ hI
                  have h := h_132 (mu_X14_readRow_52 σ gg g s52 y52_1 y52_2 y52_3) s132 y132_1 y132_4 Ws132 hy132_1 hy132_4 (TPRp.keep kJ rfl rfl rfl) (CCp.keep kJ rfl rfl rfl rfl rfl rfl rfl) (kJ.R rfl) (kJ.F rfl) (kJ.F rfl) (kJ.F rfl) (kJ.F rfl) (kJ.F rfl) (kJ.F rfl) (fun i => kJ.A (f := 26) (by decide) rfl) hI
                  refine z_iload hC (pc := 132) 2 dX14_readRow_132 rfl ?_
                  refine z_istore_n hC (pc := 134) (lv' := [(2, iv y132_4), (0, .ref (κ 0)), (1, iv y132_1), (4, iv y132_4)]) dX14_readRow_134 rfl (by decide) rfl ?_
                  refine z_aload_n hC (pc := 135) 1 dX14_readRow_135 rfl rfl ?_
                  obtain ⟨p34, h⟩ := h
                  refine y_callVv hC (pc := 136) (As := []) (kX14_blanks l G κ s132  Ws132  p34) dmX14_blanks zf14 rOb_0 dX14_readRow_136 zw3119 rfl rfl (Nat.le_of_ble_eq_true rfl) (Nat.le_of_ble_eq_true rfl) (by omega) (by omega) (Nat.le_of_ble_eq_true rfl) (kk := fun s136 Ws136 qs136 => ?_)
                  have h := h s136 Ws136 (rNMp.keep qs136.1 rfl rfl rfl rfl rfl) (TPRp.keep qs136.1 rfl rfl rfl) (WNp.keep qs136.1 rfl rfl rfl rfl rfl) (PNp.keep qs136.1 rfl rfl rfl rfl rfl) (CCp.keep qs136.1 rfl rfl rfl rfl rfl rfl rfl) (qs136.1.R rfl) (qs136.1.F rfl) (qs136.1.F rfl) (qs136.1.F rfl) (qs136.1.F rfl) (qs136.1.F rfl) (qs136.1.F rfl) (qs136.1.F rfl) (qs136.1.F rfl) (qs136.1.F rfl) (qs136.1.F rfl) (fun i => qs136.1.A (f := 26) (by decide) rfl) (qs136.1.FG g0 rfl) (qs136.1.FG g0 rfl) (qs136.1.FG g0 rfl) (qs136.1.FG g0 rfl) (qs136.1.FG g0 rfl) (fz_keep qs136.1 rfl) (RG.keep (c0 := 0) qs136.1 rfl rfl rfl rfl rfl rfl rfl rfl rfl rfl rfl rfl rfl rfl rfl rfl rfl rfl) qs136.2
                  refine z_aload_n hC (pc := 139) 1 dX14_readRow_139 rfl rfl ?_
                  obtain ⟨p35, h⟩ := h
                  refine y_callVi hC (pc := 140) (As := []) (kX14_here l G κ s136  Ws136  p35) dmX14_here zf14 rOb_0 dX14_readRow_140 zw3099 rfl rfl (Nat.le_of_ble_eq_true rfl) (Nat.le_of_ble_eq_true rfl) (by omega) (by omega) (Nat.le_of_ble_eq_true rfl) (kk := fun v140 s140 hv140 Ws140 qs140 => ?_)
                  obtain ⟨es140, qs140⟩ := qs140
                  have es140 := es140.symm
                  subst es140
                  have h := h v140 hv140 qs140
                  refine z_bipush hC (pc := 143) (v := Int32.ofInt 44) dX14_readRow_143 (by decide) ?_
                  obtain ⟨hT, hF⟩ := h
                  refine y_icmp_ne hC (pc := 145) 152 hv140 (r_lit rfl) dX14_readRow_145 (by decide) (fun c => ?_) (fun c => ?_)
                  · have h := hT c
                    refine z_iconst hC (pc := 152) (v := Int32.ofInt 0) dX14_readRow_152 (by decide) ?_
                    refine z_istore_n hC (pc := 153) (lv' := [(3, iv 0), (2, iv y132_4), (0, .ref (κ 0)), (1, iv y132_1), (4, iv y132_4)]) dX14_readRow_153 rfl (by decide) rfl ?_
                    refine z_iload_n hC (pc := 154) 0 dX14_readRow_154 rfl rfl ?_
                    refine y_if_eq hC (pc := 155) 168 (r_lit rfl) dX14_readRow_155 (by decide) (fun _ => ?_) (fun c => absurd c (by decide))
                    refine z_goto hC (pc := 168) 52 dX14_readRow_168 (by decide) ?_
                    refine z_lvs [2, 3, 1, 0] rfl ?_
                    obtain ⟨hI, hm⟩ := h
                    exact ih52 s136 y132_1 y132_4 0 Ws136 hy132_1 hy132_4 (r_lit rfl) (rKeep.tr (rKeep.tr rKeep.rf kJ rfl rfl rfl rfl rfl) qs136.1 rfl rfl rfl rfl rfl) hI (by omega)
                  · have h := hF c
                    refine z_iconst hC (pc := 148) (v := Int32.ofInt 1) dX14_readRow_148 (by decide) ?_
                    refine z_goto hC (pc := 149) 153 dX14_readRow_149 (by decide) ?_
                    refine z_istore_n hC (pc := 153) (lv' := [(3, iv 1), (2, iv y132_4), (0, .ref (κ 0)), (1, iv y132_1), (4, iv y132_4)]) dX14_readRow_153 rfl (by decide) rfl ?_
                    refine z_iload_n hC (pc := 154) 0 dX14_readRow_154 rfl rfl ?_
                    refine y_if_eq hC (pc := 155) 168 (r_lit rfl) dX14_readRow_155 (by decide) (fun c => absurd c (by decide)) (fun _ => ?_)
                    refine z_aload_n hC (pc := 158) 2 dX14_readRow_158 rfl rfl ?_
                    refine z_dup hC (pc := 159) dX14_readRow_159 rfl ?_
                    refine y_get hC (pc := 160) zf14 rOb_0 29 (v := iv (rF s136 0 29)) dX14_readRow_160 zw2496 (rv_i (Or.inl rfl) rfl) (kk := ?_)
                    have h := h (Ws136.f _ _)
                    refine z_iconst hC (pc := 163) (v := Int32.ofInt 1) dX14_readRow_163 (by decide) ?_
                    refine y_iadd hC (pc := 164) (v := ((rF s136 0 29) + 1)) dX14_readRow_164 rfl ?_
                    obtain ⟨r36, h⟩ := h
                    refine y_putI hC (pc := 165) zf14 rOb_0 29 (x := ((rF s136 0 29) + 1)) dX14_readRow_165 zw2496 (Or.inl rfl) rfl rfl (kk := ?_)
                    have W37 := Ws136.sF (q := 0) (f := 29) (x := ((rF s136 0 29) + 1)) r36
                    refine z_goto hC (pc := 168) 52 dX14_readRow_168 (by decide) ?_
                    refine z_lvs [2, 3, 1, 0] rfl ?_
                    obtain ⟨hI, hm⟩ := h
                    exact ih52 (sF s136 0 29 ((rF s136 0 29) + 1)) y132_1 y132_4 1 W37 hy132_1 hy132_4 (r_lit rfl) (rKeep.tr (rKeep.tr (rKeep.tr rKeep.rf kJ rfl rfl rfl rfl rfl) qs136.1 rfl rfl rfl rfl rfl) (rKeep.sF0 (f := 29)) rfl rfl rfl rfl rfl) hI (by omega)
                obtain ⟨hT, hF⟩ := h
                refine y_if_ne hC (pc := 104) 121 hy52_2 dX14_readRow_104 (by decide) (fun c => ?_) (fun c => ?_)
                · have h := hT c
                  refine z_aload_n hC (pc := 121) 1 dX14_readRow_121 rfl rfl ?_
                  refine y_get hC (pc := 122) zf14 rOb_0 7 (v := .ref (κ (rR σ 7))) dX14_readRow_122 zw2475 (rv_g rfl ((qs98.1.R rfl).trans ((qs93.1.R rfl).trans ((qs64.1.R rfl).trans (kJ.R rfl)))) g0) (kk := ?_)
                  refine y_getN hC (pc := 125) zf13 (rOb_k g0) 5 (v := .ref (κ (1000 * ((rR σ 7) + 1) + 5))) dX14_readRow_125 zw2320 (rv_c rfl) (kk := ?_)
                  refine z_iload_n hC (pc := 128) 3 dX14_readRow_128 rfl rfl ?_
                  refine z_iload hC (pc := 129) 0 dX14_readRow_129 rfl ?_
                  obtain ⟨b38, h⟩ := h
                  refine y_iast hC (pc := 131) (rAr_k g0 rfl rfl) dX14_readRow_131 b38 (v := v98) (kk := ?_)
                  have W39 := Ws98.sA (p := (1000 * ((rR σ 7) + 1) + 5)) (i := y52_2) (x := v98) hv98
                  refine z_lvs [1, 2, 0] rfl ?_
                  exact j132 (sT s98 (rR σ 7) 5 y52_2 v98) y52_1 v98 W39 hy52_1 hv98 (rKeep.tr (rKeep.tr (rKeep.tr (rKeep.tr (rKeep.tr rKeep.rf kJ rfl rfl rfl rfl rfl) qs64.1 rfl rfl rfl rfl rfl) qs93.1 rfl rfl rfl rfl rfl) qs98.1 rfl rfl rfl rfl rfl) (rKeep.sAk (f := 5) g0 (by decide)) rfl rfl rfl rfl rfl) h
                · have h := hF c
                  refine z_aload_n hC (pc := 107) 1 dX14_readRow_107 rfl rfl ?_
                  refine y_get hC (pc := 108) zf14 rOb_0 7 (v := .ref (κ (rR σ 7))) dX14_readRow_108 zw2475 (rv_g rfl ((qs98.1.R rfl).trans ((qs93.1.R rfl).trans ((qs64.1.R rfl).trans (kJ.R rfl)))) g0) (kk := ?_)
                  refine y_getN hC (pc := 111) zf13 (rOb_k g0) 1 (v := .ref (κ (1000 * ((rR σ 7) + 1) + 1))) dX14_readRow_111 zw2312 (rv_c rfl) (kk := ?_)
                  refine z_iload_n hC (pc := 114) 2 dX14_readRow_114 rfl rfl ?_
                  refine z_iload hC (pc := 115) 0 dX14_readRow_115 rfl ?_
                  obtain ⟨b40, h⟩ := h
                  refine y_iast hC (pc := 117) (rAr_k g0 rfl rfl) dX14_readRow_117 b40 (v := v98) (kk := ?_)
                  have W41 := Ws98.sA (p := (1000 * ((rR σ 7) + 1) + 1)) (i := y52_1) (x := v98) hv98
                  refine z_goto hC (pc := 118) 132 dX14_readRow_118 (by decide) ?_
                  refine z_lvs [1, 2, 0] rfl ?_
                  exact j132 (sT s98 (rR σ 7) 1 y52_1 v98) y52_1 v98 W41 hy52_1 hv98 (rKeep.tr (rKeep.tr (rKeep.tr (rKeep.tr (rKeep.tr rKeep.rf kJ rfl rfl rfl rfl rfl) qs64.1 rfl rfl rfl rfl rfl) qs93.1 rfl rfl rfl rfl rfl) qs98.1 rfl rfl rfl rfl rfl) (rKeep.sAk (f := 1) g0 (by decide)) rfl rfl rfl rfl rfl) h
              · have h := hF c
                refine z_iconst hC (pc := 88) (v := Int32.ofInt 0) dX14_readRow_88 (by decide) ?_
                refine z_goto hC (pc := 89) 96 dX14_readRow_89 (by decide) ?_
                refine z_iconst hC (pc := 96) (v := Int32.ofInt 0) dX14_readRow_96 (by decide) ?_
                refine z_iconst hC (pc := 97) (v := Int32.ofInt 0) dX14_readRow_97 (by decide) ?_
                obtain ⟨p42, h⟩ := h
                refine y_callVi hC (pc := 98) (As := [iv 59, iv 0, iv 0, iv 0]) (kX14_node_t l G κ s64 59 0 0 0 gg Ws64 (r_lit rfl) (r_lit rfl) (r_lit rfl) (r_lit rfl) p42) dmX14_node zf14 rOb_0 dX14_readRow_98 zw3170 rfl rfl (Nat.le_of_ble_eq_true rfl) (Nat.le_of_ble_eq_true rfl) (by omega) (by omega) (Nat.le_of_ble_eq_true rfl) (kk := fun v98 s98 hv98 Ws98 qs98 => ?_)
                have h := h v98 s98 hv98 Ws98 (rNMp.keep qs98.1 rfl rfl rfl rfl rfl) (TPRp.keep qs98.1 rfl rfl rfl) (WNp.keep qs98.1 rfl rfl rfl rfl rfl) (CCp.keep qs98.1 rfl rfl rfl rfl rfl rfl rfl) (qs98.1.R rfl) (qs98.1.F rfl) (qs98.1.F rfl) (qs98.1.F rfl) (qs98.1.F rfl) (qs98.1.F rfl) (qs98.1.F rfl) (qs98.1.F rfl) (qs98.1.F rfl) (qs98.1.F rfl) (qs98.1.F rfl) (qs98.1.F rfl) (fun i => qs98.1.A (f := 26) (by decide) rfl) (qs98.1.FG g0 rfl) (qs98.1.FG g0 rfl) (qs98.1.FG g0 rfl) (qs98.1.FG g0 rfl) (fz_keep qs98.1 rfl) qs98.2
                refine z_istore hC (pc := 101) (lv' := [(4, iv v98), (0, .ref (κ 0)), (1, iv y52_1), (2, iv y52_2), (3, iv y52_3)]) dX14_readRow_101 (by decide) rfl ?_
                refine z_iload_n hC (pc := 103) 3 dX14_readRow_103 rfl rfl ?_
                have j132 : ∀ (s132 : rS) (y132_1 : Int) (y132_4 : Int), rWF s132 → rng y132_1 → rng y132_4 → rKeep 0x6c0a3001c00 0x4100001280 0x13c00000000 0x3ee0000d7f 0 σ s132 → inv_X14_readRow_132 σ gg g (mu_X14_readRow_52 σ gg g s52 y52_1 y52_2 y52_3) s132 y132_1 y132_4 → zS X G 5 (rW G κ s132) [(0, .ref (κ 0)), (1, iv y132_1), (4, iv y132_4)] 0 0 132 [] := by
                  intro s132 y132_1 y132_4 Ws132 hy132_1 hy132_4 kJ hI
                  have h := h_132 (mu_X14_readRow_52 σ gg g s52 y52_1 y52_2 y52_3) s132 y132_1 y132_4 Ws132 hy132_1 hy132_4 (TPRp.keep kJ rfl rfl rfl) (CCp.keep kJ rfl rfl rfl rfl rfl rfl rfl) (kJ.R rfl) (kJ.F rfl) (kJ.F rfl) (kJ.F rfl) (kJ.F rfl) (kJ.F rfl) (kJ.F rfl) (fun i => kJ.A (f := 26) (by decide) rfl) hI
                  refine z_iload hC (pc := 132) 2 dX14_readRow_132 rfl ?_
                  refine z_istore_n hC (pc := 134) (lv' := [(2, iv y132_4), (0, .ref (κ 0)), (1, iv y132_1), (4, iv y132_4)]) dX14_readRow_134 rfl (by decide) rfl ?_
                  refine z_aload_n hC (pc := 135) 1 dX14_readRow_135 rfl rfl ?_
                  obtain ⟨p43, h⟩ := h
                  refine y_callVv hC (pc := 136) (As := []) (kX14_blanks l G κ s132  Ws132  p43) dmX14_blanks zf14 rOb_0 dX14_readRow_136 zw3119 rfl rfl (Nat.le_of_ble_eq_true rfl) (Nat.le_of_ble_eq_true rfl) (by omega) (by omega) (Nat.le_of_ble_eq_true rfl) (kk := fun s136 Ws136 qs136 => ?_)
                  have h := h s136 Ws136 (rNMp.keep qs136.1 rfl rfl rfl rfl rfl) (TPRp.keep qs136.1 rfl rfl rfl) (WNp.keep qs136.1 rfl rfl rfl rfl rfl) (PNp.keep qs136.1 rfl rfl rfl rfl rfl) (CCp.keep qs136.1 rfl rfl rfl rfl rfl rfl rfl) (qs136.1.R rfl) (qs136.1.F rfl) (qs136.1.F rfl) (qs136.1.F rfl) (qs136.1.F rfl) (qs136.1.F rfl) (qs136.1.F rfl) (qs136.1.F rfl) (qs136.1.F rfl) (qs136.1.F rfl) (qs136.1.F rfl) (fun i => qs136.1.A (f := 26) (by decide) rfl) (qs136.1.FG g0 rfl) (qs136.1.FG g0 rfl) (qs136.1.FG g0 rfl) (qs136.1.FG g0 rfl) (qs136.1.FG g0 rfl) (fz_keep qs136.1 rfl) (RG.keep (c0 := 0) qs136.1 rfl rfl rfl rfl rfl rfl rfl rfl rfl rfl rfl rfl rfl rfl rfl rfl rfl rfl) qs136.2
                  refine z_aload_n hC (pc := 139) 1 dX14_readRow_139 rfl rfl ?_
                  obtain ⟨p44, h⟩ := h
                  refine y_callVi hC (pc := 140) (As := []) (kX14_here l G κ s136  Ws136  p44) dmX14_here zf14 rOb_0 dX14_readRow_140 zw3099 rfl rfl (Nat.le_of_ble_eq_true rfl) (Nat.le_of_ble_eq_true rfl) (by omega) (by omega) (Nat.le_of_ble_eq_true rfl) (kk := fun v140 s140 hv140 Ws140 qs140 => ?_)
                  obtain ⟨es140, qs140⟩ := qs140
                  have es140 := es140.symm
                  subst es140
                  have h := h v140 hv140 qs140
                  refine z_bipush hC (pc := 143) (v := Int32.ofInt 44) dX14_readRow_143 (by decide) ?_
                  obtain ⟨hT, hF⟩ := h
                  refine y_icmp_ne hC (pc := 145) 152 hv140 (r_lit rfl) dX14_readRow_145 (by decide) (fun c => ?_) (fun c => ?_)
                  · have h := hT c
                    refine z_iconst hC (pc := 152) (v := Int32.ofInt 0) dX14_readRow_152 (by decide) ?_
                    refine z_istore_n hC (pc := 153) (lv' := [(3, iv 0), (2, iv y132_4), (0, .ref (κ 0)), (1, iv y132_1), (4, iv y132_4)]) dX14_readRow_153 rfl (by decide) rfl ?_
                    refine z_iload_n hC (pc := 154) 0 dX14_readRow_154 rfl rfl ?_
                    refine y_if_eq hC (pc := 155) 168 (r_lit rfl) dX14_readRow_155 (by decide) (fun _ => ?_) (fun c => absurd c (by decide))
                    refine z_goto hC (pc := 168) 52 dX14_readRow_168 (by decide) ?_
                    refine z_lvs [2, 3, 1, 0] rfl ?_
                    obtain ⟨hI, hm⟩ := h
                    exact ih52 s136 y132_1 y132_4 0 Ws136 hy132_1 hy132_4 (r_lit rfl) (rKeep.tr (rKeep.tr rKeep.rf kJ rfl rfl rfl rfl rfl) qs136.1 rfl rfl rfl rfl rfl) hI (by omega)
                  · have h := hF c
                    refine z_iconst hC (pc := 148) (v := Int32.ofInt 1) dX14_readRow_148 (by decide) ?_
                    refine z_goto hC (pc := 149) 153 dX14_readRow_149 (by decide) ?_
                    refine z_istore_n hC (pc := 153) (lv' := [(3, iv 1), (2, iv y132_4), (0, .ref (κ 0)), (1, iv y132_1), (4, iv y132_4)]) dX14_readRow_153 rfl (by decide) rfl ?_
                    refine z_iload_n hC (pc := 154) 0 dX14_readRow_154 rfl rfl ?_
                    refine y_if_eq hC (pc := 155) 168 (r_lit rfl) dX14_readRow_155 (by decide) (fun c => absurd c (by decide)) (fun _ => ?_)
                    refine z_aload_n hC (pc := 158) 2 dX14_readRow_158 rfl rfl ?_
                    refine z_dup hC (pc := 159) dX14_readRow_159 rfl ?_
                    refine y_get hC (pc := 160) zf14 rOb_0 29 (v := iv (rF s136 0 29)) dX14_readRow_160 zw2496 (rv_i (Or.inl rfl) rfl) (kk := ?_)
                    have h := h (Ws136.f _ _)
                    refine z_iconst hC (pc := 163) (v := Int32.ofInt 1) dX14_readRow_163 (by decide) ?_
                    refine y_iadd hC (pc := 164) (v := ((rF s136 0 29) + 1)) dX14_readRow_164 rfl ?_
                    obtain ⟨r45, h⟩ := h
                    refine y_putI hC (pc := 165) zf14 rOb_0 29 (x := ((rF s136 0 29) + 1)) dX14_readRow_165 zw2496 (Or.inl rfl) rfl rfl (kk := ?_)
                    have W46 := Ws136.sF (q := 0) (f := 29) (x := ((rF s136 0 29) + 1)) r45
                    refine z_goto hC (pc := 168) 52 dX14_readRow_168 (by decide) ?_
                    refine z_lvs [2, 3, 1, 0] rfl ?_
                    obtain ⟨hI, hm⟩ := h
                    exact ih52 (sF s136 0 29 ((rF s136 0 29) + 1)) y132_1 y132_4 1 W46 hy132_1 hy132_4 (r_lit rfl) (rKeep.tr (rKeep.tr (rKeep.tr rKeep.rf kJ rfl rfl rfl rfl rfl) qs136.1 rfl rfl rfl rfl rfl) (rKeep.sF0 (f := 29)) rfl rfl rfl rfl rfl) hI (by omega)
                obtain ⟨hT, hF⟩ := h
                refine y_if_ne hC (pc := 104) 121 hy52_2 dX14_readRow_104 (by decide) (fun c => ?_) (fun c => ?_)
                · have h := hT c
                  refine z_aload_n hC (pc := 121) 1 dX14_readRow_121 rfl rfl ?_
                  refine y_get hC (pc := 122) zf14 rOb_0 7 (v := .ref (κ (rR σ 7))) dX14_readRow_122 zw2475 (rv_g rfl ((qs98.1.R rfl).trans ((qs64.1.R rfl).trans (kJ.R rfl))) g0) (kk := ?_)
                  refine y_getN hC (pc := 125) zf13 (rOb_k g0) 5 (v := .ref (κ (1000 * ((rR σ 7) + 1) + 5))) dX14_readRow_125 zw2320 (rv_c rfl) (kk := ?_)
                  refine z_iload_n hC (pc := 128) 3 dX14_readRow_128 rfl rfl ?_
                  refine z_iload hC (pc := 129) 0 dX14_readRow_129 rfl ?_
                  obtain ⟨b47, h⟩ := h
                  refine y_iast hC (pc := 131) (rAr_k g0 rfl rfl) dX14_readRow_131 b47 (v := v98) (kk := ?_)
                  have W48 := Ws98.sA (p := (1000 * ((rR σ 7) + 1) + 5)) (i := y52_2) (x := v98) hv98
                  refine z_lvs [1, 2, 0] rfl ?_
                  exact j132 (sT s98 (rR σ 7) 5 y52_2 v98) y52_1 v98 W48 hy52_1 hv98 (rKeep.tr (rKeep.tr (rKeep.tr (rKeep.tr rKeep.rf kJ rfl rfl rfl rfl rfl) qs64.1 rfl rfl rfl rfl rfl) qs98.1 rfl rfl rfl rfl rfl) (rKeep.sAk (f := 5) g0 (by decide)) rfl rfl rfl rfl rfl) h
                · have h := hF c
                  refine z_aload_n hC (pc := 107) 1 dX14_readRow_107 rfl rfl ?_
                  refine y_get hC (pc := 108) zf14 rOb_0 7 (v := .ref (κ (rR σ 7))) dX14_readRow_108 zw2475 (rv_g rfl ((qs98.1.R rfl).trans ((qs64.1.R rfl).trans (kJ.R rfl))) g0) (kk := ?_)
                  refine y_getN hC (pc := 111) zf13 (rOb_k g0) 1 (v := .ref (κ (1000 * ((rR σ 7) + 1) + 1))) dX14_readRow_111 zw2312 (rv_c rfl) (kk := ?_)
                  refine z_iload_n hC (pc := 114) 2 dX14_readRow_114 rfl rfl ?_
                  refine z_iload hC (pc := 115) 0 dX14_readRow_115 rfl ?_
                  obtain ⟨b49, h⟩ := h
                  refine y_iast hC (pc := 117) (rAr_k g0 rfl rfl) dX14_readRow_117 b49 (v := v98) (kk := ?_)
                  have W50 := Ws98.sA (p := (1000 * ((rR σ 7) + 1) + 1)) (i := y52_1) (x := v98) hv98
                  refine z_goto hC (pc := 118) 132 dX14_readRow_118 (by decide) ?_
                  refine z_lvs [1, 2, 0] rfl ?_
                  exact j132 (sT s98 (rR σ 7) 1 y52_1 v98) y52_1 v98 W50 hy52_1 hv98 (rKeep.tr (rKeep.tr (rKeep.tr (rKeep.tr rKeep.rf kJ rfl rfl rfl rfl rfl) qs64.1 rfl rfl rfl rfl rfl) qs98.1 rfl rfl rfl rfl rfl) (rKeep.sAk (f := 1) g0 (by decide)) rfl rfl rfl rfl rfl) h
    refine z_lvs [3, 2, 1, 0] rfl ?_
    exact j52 _ s24 v9 0 1 Ws24 hv9 (r_lit rfl) (r_lit rfl) (rKeep.tr (rKeep.tr (rKeep.tr rKeep.rf qs9.1 rfl rfl rfl rfl rfl) (rKeep.sF0 (f := 29)) rfl rfl rfl rfl rfl) qs24.1 rfl rfl rfl rfl rfl) h (Nat.le_refl _)
  · have h := hF c
    refine z_aload_n hC (pc := 36) 1 dX14_readRow_36 rfl rfl ?_
    refine z_dup hC (pc := 37) dX14_readRow_37 rfl ?_
    refine y_get hC (pc := 38) zf14 rOb_0 29 (v := iv (rF s24 0 29)) dX14_readRow_38 zw2496 (rv_i (Or.inl rfl) rfl) (kk := ?_)
    have h := h (Ws24.f _ _)
    refine z_iconst hC (pc := 41) (v := Int32.ofInt 1) dX14_readRow_41 (by decide) ?_
    refine y_iadd hC (pc := 42) (v := ((rF s24 0 29) + 1)) dX14_readRow_42 rfl ?_
    obtain ⟨r51, h⟩ := h
    refine y_putI hC (pc := 43) zf14 rOb_0 29 (x := ((rF s24 0 29) + 1)) dX14_readRow_43 zw2496 (Or.inl rfl) rfl rfl (kk := ?_)
    have W52 := Ws24.sF (q := 0) (f := 29) (x := ((rF s24 0 29) + 1)) r51
    refine z_iload_n hC (pc := 46) 0 dX14_readRow_46 rfl rfl ?_
    exact y_reti hR dX14_readRow_47 rfl hv9 W52 (Nat.le_of_ble_eq_true rfl) (Nat.le_of_ble_eq_true rfl) ⟨(rKeep.tr (rKeep.tr (rKeep.tr (rKeep.tr rKeep.rf qs9.1 rfl rfl rfl rfl rfl) (rKeep.sF0 (f := 29)) rfl rfl rfl rfl rfl) qs24.1 rfl rfl rfl rfl rfl) (rKeep.sF0 (f := 29)) rfl rfl rfl rfl rfl), h⟩
theorem kX14_readRow (l : Launch) (G : zG) (κ : Nat → Nat) (n : Nat) (ih : Q_rd l G κ n) (σ : rS) (gg : Nat) (g : Nat → Int → Int) (hwf : rWF σ) (hp : pre_X14_readRow σ gg g) (hr : rk_X14_readRow σ gg g ≤ n + 1) : rMi l G κ yX14_readRow cX14_readRow 5 .int (n + 1 + 100) ((n + 1) * 40 + 3600) [.ref (κ 0)] σ (fun x s => rKeep 0x6c0a3001c00 0x4100001280 0x13c00000000 0x3ee0000d7f 0 σ s ∧ post_X14_readRow σ gg g x s) := wX14_readRow l G κ n ih σ gg g hwf (post_X14_readRow σ gg g) (vX14_readRow n σ gg g hwf hp hr) (vX14_readRow_132 n σ gg g hwf hp hr) (vX14_readRow_52 n σ gg g hwf hp hr) (vX14_readRow_52m n σ gg g hwf hp hr)
theorem wX14_readArgs (l : Launch) (G : zG) (κ : Nat → Nat) (n : Nat) (ih : Q_rd l G κ n) (σ : rS) (x1 : Int) (gg : Nat) (g : Nat → Int → Int) (K : Nat) (hwf : rWF σ) (hx1 : rng x1) (Q : rS → Prop) (h : VC_X14_readArgs n σ x1 gg g K Q) (h_55 : VC_X14_readArgs_55 n σ x1 gg g K Q) (h_55m : VC_X14_readArgs_55m n σ x1 gg g K) : rMv l G κ yX14_readArgs cX14_readArgs 6 (n + 1 + 100) ((n + 1) * 40 + 3600) [.ref (κ 0), iv x1] σ (fun s => rKeep 0x6c0a3001c00 0x4100001280 0x13c00000000 0x3ee0000d7f 0 σ s ∧ Q s) := by
  refine zMv.intro (by decide +kernel) (Nat.le_of_ble_eq_true rfl) (fun X hC hR => ?_)
  obtain ⟨g0, h⟩ := h
  refine z_aload_n hC (pc := 0) 0 dX14_readArgs_0 rfl rfl ?_
  obtain ⟨p10, h⟩ := h
  refine y_callVv hC (pc := 1) (As := []) (kX14_blanks l G κ σ  hwf  p10) dmX14_blanks zf14 rOb_0 dX14_readArgs_1 zw3119 rfl rfl (Nat.le_of_ble_eq_true rfl) (Nat.le_of_ble_eq_true rfl) (by omega) (by omega) (Nat.le_of_ble_eq_true rfl) (kk := fun s1 Ws1 qs1 => ?_)
  have h := h s1 Ws1 (rNMp.keep qs1.1 rfl rfl rfl rfl rfl) (TPRp.keep qs1.1 rfl rfl rfl) (WNp.keep qs1.1 rfl rfl rfl rfl rfl) (PNp.keep qs1.1 rfl rfl rfl rfl rfl) (CCp.keep qs1.1 rfl rfl rfl rfl rfl rfl rfl) (qs1.1.R rfl) (qs1.1.F rfl) (qs1.1.F rfl) (qs1.1.F rfl) (qs1.1.F rfl) (qs1.1.F rfl) (qs1.1.F rfl) (qs1.1.F rfl) (qs1.1.F rfl) (qs1.1.F rfl) (qs1.1.F rfl) (fun i => qs1.1.A (f := 26) (by decide) rfl) (qs1.1.FG g0 rfl) (qs1.1.FG g0 rfl) (qs1.1.FG g0 rfl) (qs1.1.FG g0 rfl) (qs1.1.FG g0 rfl) (fz_keep qs1.1 rfl) (RG.keep (c0 := 0) qs1.1 rfl rfl rfl rfl rfl rfl rfl rfl rfl rfl rfl rfl rfl rfl rfl rfl rfl rfl) qs1.2
  refine z_aload_n hC (pc := 4) 0 dX14_readArgs_4 rfl rfl ?_
  refine y_get hC (pc := 5) zf14 rOb_0 10 (v := iv (rF s1 0 10)) dX14_readArgs_5 zw2478 (rv_i (Or.inl rfl) rfl) (kk := ?_)
  have h := h (Ws1.f _ _)
  obtain ⟨hT, hF⟩ := h
  refine y_if_eq hC (pc := 8) 12 (Ws1.f _ _) dX14_readArgs_8 (by decide) (fun c => ?_) (fun c => ?_)
  · have h := hT c
    refine z_aload_n hC (pc := 12) 0 dX14_readArgs_12 rfl rfl ?_
    obtain ⟨p11, h⟩ := h
    refine y_callVi hC (pc := 13) (As := []) (kX14_here l G κ s1  Ws1  p11) dmX14_here zf14 rOb_0 dX14_readArgs_13 zw3099 rfl rfl (Nat.le_of_ble_eq_true rfl) (Nat.le_of_ble_eq_true rfl) (by omega) (by omega) (Nat.le_of_ble_eq_true rfl) (kk := fun v13 s13 hv13 Ws13 qs13 => ?_)
    obtain ⟨es13, qs13⟩ := qs13
    have es13 := es13.symm
    subst es13
    have h := h v13 hv13 qs13
    refine z_bipush hC (pc := 16) (v := Int32.ofInt 41) dX14_readArgs_16 (by decide) ?_
    obtain ⟨hT, hF⟩ := h
    refine y_icmp_ne hC (pc := 18) 32 hv13 (r_lit rfl) dX14_readArgs_18 (by decide) (fun c => ?_) (fun c => ?_)
    · have h := hT c
      refine z_aload_n hC (pc := 32) 0 dX14_readArgs_32 rfl rfl ?_
      obtain ⟨p12, h⟩ := h
      refine y_callVi hC (pc := 33) (As := []) (kX14_isDots l G κ s1  Ws1  p12) dmX14_isDots zf14 rOb_0 dX14_readArgs_33 zw3250 rfl rfl (Nat.le_of_ble_eq_true rfl) (Nat.le_of_ble_eq_true rfl) (by omega) (by omega) (Nat.le_of_ble_eq_true rfl) (kk := fun v33 s33 hv33 Ws33 qs33 => ?_)
      obtain ⟨es33, qs33⟩ := qs33
      have es33 := es33.symm
      subst es33
      have h := h v33 hv33 qs33
      obtain ⟨hT, hF⟩ := h
      refine y_if_eq hC (pc := 36) 45 hv33 dX14_readArgs_36 (by decide) (fun c => ?_) (fun c => ?_)
      · have h := hT c
        refine z_aload_n hC (pc := 45) 0 dX14_readArgs_45 rfl rfl ?_
        obtain ⟨p13, h⟩ := h
        refine y_callVi hC (pc := 46) (As := []) (kX14_isNamed l G κ s1  Ws1  p13) dmX14_isNamed zf14 rOb_0 dX14_readArgs_46 zw3258 rfl rfl (Nat.le_of_ble_eq_true rfl) (Nat.le_of_ble_eq_true rfl) (by omega) (by omega) (Nat.le_of_ble_eq_true rfl) (kk := fun v46 s46 hv46 Ws46 qs46 => ?_)
        obtain ⟨es46, qs46⟩ := qs46
        have es46 := es46.symm
        subst es46
        have h := h v46 hv46 qs46
        refine z_istore_n hC (pc := 49) (lv' := [(2, iv v46), (0, .ref (κ 0)), (1, iv x1)]) dX14_readArgs_49 rfl (by decide) rfl ?_
        refine z_iconst hC (pc := 50) (v := Int32.ofInt 0) dX14_readArgs_50 (by decide) ?_
        refine z_istore_n hC (pc := 51) (lv' := [(3, iv 0), (2, iv v46), (0, .ref (κ 0)), (1, iv x1)]) dX14_readArgs_51 rfl (by decide) rfl ?_
        refine z_iconst hC (pc := 52) (v := Int32.ofInt 1) dX14_readArgs_52 (by decide) ?_
        refine z_istore hC (pc := 53) (lv' := [(4, iv 1), (3, iv 0), (2, iv v46), (0, .ref (κ 0)), (1, iv x1)]) dX14_readArgs_53 (by decide) rfl ?_
        have j55 : ∀ (d55 : Nat), ∀ (s55 : rS) (y55_2 : Int) (y55_3 : Int) (y55_4 : Int), rWF s55 → rng y55_2 → rng y55_3 → rng y55_4 → rKeep 0x6c0a3001c00 0x4100001280 0x13c00000000 0x3ee0000d7f 0 σ s55 → inv_X14_readArgs_55 σ x1 gg g K s55 y55_2 y55_3 y55_4 → (mu_X14_readArgs_55 σ x1 gg g K s55 y55_2 y55_3 y55_4) ≤ d55 → zS X G 6 (rW G κ s55) [(0, .ref (κ 0)), (1, iv x1), (2, iv y55_2), (3, iv y55_3), (4, iv y55_4)] 0 0 55 [] := by
          intro d55
          induction d55 with
          | zero =>
            intro s55 y55_2 y55_3 y55_4 Ws55 hy55_2 hy55_3 hy55_4 kJ hI hmu
            exact absurd hmu (by have := h_55m  s55 y55_2 y55_3 y55_4 Ws55 hy55_2 hy55_3 hy55_4 (TPRp.keep kJ rfl rfl rfl) (CCp.keep kJ rfl rfl rfl rfl rfl rfl rfl) (kJ.R rfl) (kJ.F rfl) (kJ.F rfl) (kJ.F rfl) (kJ.F rfl) (kJ.F rfl) (kJ.F rfl) (fun i => kJ.A (f := 26) (by decide) rfl) hI; omega)
          | succ d55 ih55 =>
            intro s55 y55_2 y55_3 y55_4 Ws55 hy55_2 hy55_3 hy55_4 kJ hI hmu55
            have h := h_55  s55 y55_2 y55_3 y55_4 Ws55 hy55_2 hy55_3 hy55_4 (TPRp.keep kJ rfl rfl rfl) (CCp.keep kJ rfl rfl rfl rfl rfl rfl rfl) (kJ.R rfl) (kJ.F rfl) (kJ.F rfl) (kJ.F rfl) (kJ.F rfl) (kJ.F rfl) (kJ.F rfl) (fun i => kJ.A (f := 26) (by decide) rfl) hI
            refine z_iload hC (pc := 55) 4 dX14_readArgs_55 rfl ?_
            obtain ⟨hT, hF⟩ := h
            refine y_if_eq hC (pc := 57) 192 hy55_4 dX14_readArgs_57 (by decide) (fun c => ?_) (fun c => ?_)
            · have h := hT c
              refine z_aload_n hC (pc := 192) 0 dX14_readArgs_192 rfl rfl ?_
              refine z_bipush hC (pc := 193) (v := Int32.ofInt 41) dX14_readArgs_193 (by decide) ?_
              obtain ⟨p14, h⟩ := h
              refine y_callVv hC (pc := 195) (As := [iv 41]) (kX14_need l G κ s55 41 Ws55 (r_lit rfl) p14) dmX14_need zf14 rOb_0 dX14_readArgs_195 zw3136 rfl rfl (Nat.le_of_ble_eq_true rfl) (Nat.le_of_ble_eq_true rfl) (by omega) (by omega) (Nat.le_of_ble_eq_true rfl) (kk := fun s195 Ws195 qs195 => ?_)
              have h := h s195 Ws195 (rNMp.keep qs195.1 rfl rfl rfl rfl rfl) (TPRp.keep qs195.1 rfl rfl rfl) (WNp.keep qs195.1 rfl rfl rfl rfl rfl) (PNp.keep qs195.1 rfl rfl rfl rfl rfl) (CCp.keep qs195.1 rfl rfl rfl rfl rfl rfl rfl) (qs195.1.R rfl) (qs195.1.F rfl) (qs195.1.F rfl) (qs195.1.F rfl) (qs195.1.F rfl) (qs195.1.F rfl) (qs195.1.F rfl) (qs195.1.F rfl) (qs195.1.F rfl) (qs195.1.F rfl) (fun i => qs195.1.A (f := 26) (by decide) rfl) (qs195.1.FG g0 rfl) (qs195.1.FG g0 rfl) (qs195.1.FG g0 rfl) (qs195.1.FG g0 rfl) (qs195.1.FG g0 rfl) (RG.keep (c0 := 0) qs195.1 rfl rfl rfl rfl rfl rfl rfl rfl rfl rfl rfl rfl rfl rfl rfl rfl rfl rfl) qs195.2
              exact y_retv hR dX14_readArgs_198 Ws195 (Nat.le_of_ble_eq_true rfl) (Nat.le_of_ble_eq_true rfl) ⟨(rKeep.tr (rKeep.tr rKeep.rf kJ rfl rfl rfl rfl rfl) qs195.1 rfl rfl rfl rfl rfl), h⟩
            · have h := hF c
              refine z_aload_n hC (pc := 60) 0 dX14_readArgs_60 rfl rfl ?_
              refine y_get hC (pc := 61) zf14 rOb_0 10 (v := iv (rF s55 0 10)) dX14_readArgs_61 zw2478 (rv_i (Or.inl rfl) rfl) (kk := ?_)
              have h := h (Ws55.f _ _)
              obtain ⟨hT, hF⟩ := h
              refine y_if_ne hC (pc := 64) 192 (Ws55.f _ _) dX14_readArgs_64 (by decide) (fun c => ?_) (fun c => ?_)
              · have h := hT c
                refine z_aload_n hC (pc := 192) 0 dX14_readArgs_192 rfl rfl ?_
                refine z_bipush hC (pc := 193) (v := Int32.ofInt 41) dX14_readArgs_193 (by decide) ?_
                obtain ⟨p15, h⟩ := h
                refine y_callVv hC (pc := 195) (As := [iv 41]) (kX14_need l G κ s55 41 Ws55 (r_lit rfl) p15) dmX14_need zf14 rOb_0 dX14_readArgs_195 zw3136 rfl rfl (Nat.le_of_ble_eq_true rfl) (Nat.le_of_ble_eq_true rfl) (by omega) (by omega) (Nat.le_of_ble_eq_true rfl) (kk := fun s195 Ws195 qs195 => ?_)
                have h := h s195 Ws195 (rNMp.keep qs195.1 rfl rfl rfl rfl rfl) (TPRp.keep qs195.1 rfl rfl rfl) (WNp.keep qs195.1 rfl rfl rfl rfl rfl) (PNp.keep qs195.1 rfl rfl rfl rfl rfl) (CCp.keep qs195.1 rfl rfl rfl rfl rfl rfl rfl) (qs195.1.R rfl) (qs195.1.F rfl) (qs195.1.F rfl) (qs195.1.F rfl) (qs195.1.F rfl) (qs195.1.F rfl) (qs195.1.F rfl) (qs195.1.F rfl) (qs195.1.F rfl) (qs195.1.F rfl) (fun i => qs195.1.A (f := 26) (by decide) rfl) (qs195.1.FG g0 rfl) (qs195.1.FG g0 rfl) (qs195.1.FG g0 rfl) (qs195.1.FG g0 rfl) (qs195.1.FG g0 rfl) (RG.keep (c0 := 0) qs195.1 rfl rfl rfl rfl rfl rfl rfl rfl rfl rfl rfl rfl rfl rfl rfl rfl rfl rfl) qs195.2
                exact y_retv hR dX14_readArgs_198 Ws195 (Nat.le_of_ble_eq_true rfl) (Nat.le_of_ble_eq_true rfl) ⟨(rKeep.tr (rKeep.tr rKeep.rf kJ rfl rfl rfl rfl rfl) qs195.1 rfl rfl rfl rfl rfl), h⟩
              · have h := hF c
                refine z_iload_n hC (pc := 67) 2 dX14_readArgs_67 rfl rfl ?_
                obtain ⟨hT, hF⟩ := h
                refine y_if_eq hC (pc := 68) 79 hy55_2 dX14_readArgs_68 (by decide) (fun c => ?_) (fun c => ?_)
                · have h := hT c
                  refine z_aload_n hC (pc := 79) 0 dX14_readArgs_79 rfl rfl ?_
                  refine z_bipush hC (pc := 80) (v := Int32.ofInt 50) dX14_readArgs_80 (by decide) ?_
                  refine z_aload_n hC (pc := 82) 0 dX14_readArgs_82 rfl rfl ?_
                  obtain ⟨g16, h⟩ := h
                  obtain ⟨p17, h⟩ := h
                  obtain ⟨p18, h⟩ := h
                  refine y_callVi hC (pc := 83) (As := []) (qX14_readArg ih s55 gg g16 Ws55  p17 p18) dmX14_readArg zf14 rOb_0 dX14_readArgs_83 zw3234 rfl rfl (Nat.le_of_ble_eq_true rfl) (Nat.le_of_ble_eq_true rfl) (by omega) (by omega) (Nat.le_of_ble_eq_true rfl) (kk := fun v83 s83 hv83 Ws83 qs83 => ?_)
                  have h := h v83 s83 hv83 Ws83 (TPRp.keep qs83.1 rfl rfl rfl) (CCp.keep qs83.1 rfl rfl rfl rfl rfl rfl rfl) (qs83.1.R rfl) (qs83.1.F rfl) (qs83.1.F rfl) (qs83.1.F rfl) (qs83.1.F rfl) (qs83.1.F rfl) (qs83.1.F rfl) (fun i => qs83.1.A (f := 26) (by decide) rfl) qs83.2
                  refine z_iconst hC (pc := 86) (v := Int32.ofInt 0) dX14_readArgs_86 (by decide) ?_
                  refine z_iconst hC (pc := 87) (v := Int32.ofInt 0) dX14_readArgs_87 (by decide) ?_
                  obtain ⟨p19, h⟩ := h
                  refine y_callVi hC (pc := 88) (As := [iv 50, iv v83, iv 0, iv 0]) (kX14_node_t l G κ s83 50 v83 0 0 gg Ws83 (r_lit rfl) hv83 (r_lit rfl) (r_lit rfl) p19) dmX14_node zf14 rOb_0 dX14_readArgs_88 zw3170 rfl rfl (Nat.le_of_ble_eq_true rfl) (Nat.le_of_ble_eq_true rfl) (by omega) (by omega) (Nat.le_of_ble_eq_true rfl) (kk := fun v88 s88 hv88 Ws88 qs88 => ?_)
                  have h := h v88 s88 hv88 Ws88 (rNMp.keep qs88.1 rfl rfl rfl rfl rfl) (TPRp.keep qs88.1 rfl rfl rfl) (WNp.keep qs88.1 rfl rfl rfl rfl rfl) (CCp.keep qs88.1 rfl rfl rfl rfl rfl rfl rfl) (qs88.1.R rfl) (qs88.1.F rfl) (qs88.1.F rfl) (qs88.1.F rfl) (qs88.1.F rfl) (qs88.1.F rfl) (qs88.1.F rfl) (qs88.1.F rfl) (qs88.1.F rfl) (qs88.1.F rfl) (qs88.1.F rfl) (qs88.1.F rfl) (fun i => qs88.1.A (f := 26) (by decide) rfl) (qs88.1.FG g0 rfl) (qs88.1.FG g0 rfl) (qs88.1.FG g0 rfl) (qs88.1.FG g0 rfl) (fz_keep qs88.1 rfl) qs88.2
                  refine z_istore hC (pc := 91) (lv' := [(5, iv v88), (0, .ref (κ 0)), (1, iv x1), (2, iv y55_2), (3, iv y55_3), (4, iv y55_4)]) dX14_readArgs_91 (by decide) rfl ?_
                  refine z_aload_n hC (pc := 93) 1 dX14_readArgs_93 rfl rfl ?_
                  refine y_get hC (pc := 94) zf14 rOb_0 10 (v := iv (rF s88 0 10)) dX14_readArgs_94 zw2478 (rv_i (Or.inl rfl) rfl) (kk := ?_)
                  have h := h (Ws88.f _ _)
                  obtain ⟨hT, hF⟩ := h
                  refine y_if_eq hC (pc := 97) 101 (Ws88.f _ _) dX14_readArgs_97 (by decide) (fun c => ?_) (fun c => ?_)
                  · have h := hT c
                    refine z_iload_n hC (pc := 101) 4 dX14_readArgs_101 rfl rfl ?_
                    obtain ⟨hT, hF⟩ := h
                    refine y_if_ne hC (pc := 102) 119 hy55_3 dX14_readArgs_102 (by decide) (fun c => ?_) (fun c => ?_)
                    · have h := hT c
                      refine z_aload_n hC (pc := 119) 1 dX14_readArgs_119 rfl rfl ?_
                      refine y_get hC (pc := 120) zf14 rOb_0 7 (v := .ref (κ (rR σ 7))) dX14_readArgs_120 zw2475 (rv_g rfl ((qs88.1.R rfl).trans ((qs83.1.R rfl).trans (kJ.R rfl))) g0) (kk := ?_)
                      refine y_getN hC (pc := 123) zf13 (rOb_k g0) 5 (v := .ref (κ (1000 * ((rR σ 7) + 1) + 5))) dX14_readArgs_123 zw2320 (rv_c rfl) (kk := ?_)
                      refine z_iload_n hC (pc := 126) 4 dX14_readArgs_126 rfl rfl ?_
                      refine z_iload hC (pc := 127) 0 dX14_readArgs_127 rfl ?_
                      obtain ⟨b20, h⟩ := h
                      refine y_iast hC (pc := 129) (rAr_k g0 rfl rfl) dX14_readArgs_129 b20 (v := v88) (kk := ?_)
                      have W21 := Ws88.sA (p := (1000 * ((rR σ 7) + 1) + 5)) (i := y55_3) (x := v88) hv88
                      refine z_iload hC (pc := 130) 0 dX14_readArgs_130 rfl ?_
                      refine z_istore_n hC (pc := 132) (lv' := [(3, iv v88), (5, iv v88), (0, .ref (κ 0)), (1, iv x1), (2, iv y55_2), (4, iv y55_4)]) dX14_readArgs_132 rfl (by decide) rfl ?_
                      refine z_aload_n hC (pc := 133) 2 dX14_readArgs_133 rfl rfl ?_
                      obtain ⟨p22, h⟩ := h
                      refine y_callVv hC (pc := 134) (As := []) (kX14_blanks l G κ (sT s88 (rR σ 7) 5 y55_3 v88)  W21  p22) dmX14_blanks zf14 rOb_0 dX14_readArgs_134 zw3119 rfl rfl (Nat.le_of_ble_eq_true rfl) (Nat.le_of_ble_eq_true rfl) (by omega) (by omega) (Nat.le_of_ble_eq_true rfl) (kk := fun s134 Ws134 qs134 => ?_)
                      have h := h s134 Ws134 (rNMp.keep qs134.1 rfl rfl rfl rfl rfl) (TPRp.keep qs134.1 rfl rfl rfl) (WNp.keep qs134.1 rfl rfl rfl rfl rfl) (PNp.keep qs134.1 rfl rfl rfl rfl rfl) (CCp.keep qs134.1 rfl rfl rfl rfl rfl rfl rfl) (qs134.1.R rfl) (qs134.1.F rfl) (qs134.1.F rfl) (qs134.1.F rfl) (qs134.1.F rfl) (qs134.1.F rfl) (qs134.1.F rfl) (qs134.1.F rfl) (qs134.1.F rfl) (qs134.1.F rfl) (qs134.1.F rfl) (fun i => qs134.1.A (f := 26) (by decide) rfl) (qs134.1.FG g0 rfl) (qs134.1.FG g0 rfl) (qs134.1.FG g0 rfl) (qs134.1.FG g0 rfl) (qs134.1.FG g0 rfl) (fz_keep qs134.1 rfl) (RG.keep (c0 := 0) qs134.1 rfl rfl rfl rfl rfl rfl rfl rfl rfl rfl rfl rfl rfl rfl rfl rfl rfl rfl) qs134.2
                      refine z_aload_n hC (pc := 137) 2 dX14_readArgs_137 rfl rfl ?_
                      obtain ⟨p23, h⟩ := h
                      refine y_callVi hC (pc := 138) (As := []) (kX14_here l G κ s134  Ws134  p23) dmX14_here zf14 rOb_0 dX14_readArgs_138 zw3099 rfl rfl (Nat.le_of_ble_eq_true rfl) (Nat.le_of_ble_eq_true rfl) (by omega) (by omega) (Nat.le_of_ble_eq_true rfl) (kk := fun v138 s138 hv138 Ws138 qs138 => ?_)
                      obtain ⟨es138, qs138⟩ := qs138
                      have es138 := es138.symm
                      subst es138
                      have h := h v138 hv138 qs138
                      refine z_bipush hC (pc := 141) (v := Int32.ofInt 44) dX14_readArgs_141 (by decide) ?_
                      obtain ⟨hT, hF⟩ := h
                      refine y_icmp_ne hC (pc := 143) 150 hv138 (r_lit rfl) dX14_readArgs_143 (by decide) (fun c => ?_) (fun c => ?_)
                      · have h := hT c
                        refine z_iconst hC (pc := 150) (v := Int32.ofInt 0) dX14_readArgs_150 (by decide) ?_
                        refine z_istore hC (pc := 151) (lv' := [(4, iv 0), (3, iv v88), (5, iv v88), (0, .ref (κ 0)), (1, iv x1), (2, iv y55_2)]) dX14_readArgs_151 (by decide) rfl ?_
                        refine z_iload hC (pc := 153) 0 dX14_readArgs_153 rfl ?_
                        refine y_if_eq hC (pc := 155) 189 (r_lit rfl) dX14_readArgs_155 (by decide) (fun _ => ?_) (fun c => absurd c (by decide))
                        refine z_goto hC (pc := 189) 55 dX14_readArgs_189 (by decide) ?_
                        refine z_lvs [3, 4, 5, 1, 0] rfl ?_
                        obtain ⟨hI, hm⟩ := h
                        exact ih55 s134 y55_2 v88 0 Ws134 hy55_2 hv88 (r_lit rfl) (rKeep.tr (rKeep.tr (rKeep.tr (rKeep.tr (rKeep.tr rKeep.rf kJ rfl rfl rfl rfl rfl) qs83.1 rfl rfl rfl rfl rfl) qs88.1 rfl rfl rfl rfl rfl) (rKeep.sAk (f := 5) g0 (by decide)) rfl rfl rfl rfl rfl) qs134.1 rfl rfl rfl rfl rfl) hI (by omega)
                      · have h := hF c
                        refine z_iconst hC (pc := 146) (v := Int32.ofInt 1) dX14_readArgs_146 (by decide) ?_
                        refine z_goto hC (pc := 147) 151 dX14_readArgs_147 (by decide) ?_
                        refine z_istore hC (pc := 151) (lv' := [(4, iv 1), (3, iv v88), (5, iv v88), (0, .ref (κ 0)), (1, iv x1), (2, iv y55_2)]) dX14_readArgs_151 (by decide) rfl ?_
                        refine z_iload hC (pc := 153) 0 dX14_readArgs_153 rfl ?_
                        refine y_if_eq hC (pc := 155) 189 (r_lit rfl) dX14_readArgs_155 (by decide) (fun c => absurd c (by decide)) (fun _ => ?_)
                        refine z_aload_n hC (pc := 158) 3 dX14_readArgs_158 rfl rfl ?_
                        refine z_dup hC (pc := 159) dX14_readArgs_159 rfl ?_
                        refine y_get hC (pc := 160) zf14 rOb_0 29 (v := iv (rF s134 0 29)) dX14_readArgs_160 zw2496 (rv_i (Or.inl rfl) rfl) (kk := ?_)
                        have h := h (Ws134.f _ _)
                        refine z_iconst hC (pc := 163) (v := Int32.ofInt 1) dX14_readArgs_163 (by decide) ?_
                        refine y_iadd hC (pc := 164) (v := ((rF s134 0 29) + 1)) dX14_readArgs_164 rfl ?_
                        obtain ⟨r24, h⟩ := h
                        refine y_putI hC (pc := 165) zf14 rOb_0 29 (x := ((rF s134 0 29) + 1)) dX14_readArgs_165 zw2496 (Or.inl rfl) rfl rfl (kk := ?_)
                        have W25 := Ws134.sF (q := 0) (f := 29) (x := ((rF s134 0 29) + 1)) r24
                        refine z_aload_n hC (pc := 168) 3 dX14_readArgs_168 rfl rfl ?_
                        obtain ⟨p26, h⟩ := h
                        refine y_callVv hC (pc := 169) (As := []) (kX14_blanks l G κ (sF s134 0 29 ((rF s134 0 29) + 1))  W25  p26) dmX14_blanks zf14 rOb_0 dX14_readArgs_169 zw3119 rfl rfl (Nat.le_of_ble_eq_true rfl) (Nat.le_of_ble_eq_true rfl) (by omega) (by omega) (Nat.le_of_ble_eq_true rfl) (kk := fun s169 Ws169 qs169 => ?_)
                        have h := h s169 Ws169 (rNMp.keep qs169.1 rfl rfl rfl rfl rfl) (TPRp.keep qs169.1 rfl rfl rfl) (WNp.keep qs169.1 rfl rfl rfl rfl rfl) (PNp.keep qs169.1 rfl rfl rfl rfl rfl) (CCp.keep qs169.1 rfl rfl rfl rfl rfl rfl rfl) (qs169.1.R rfl) (qs169.1.F rfl) (qs169.1.F rfl) (qs169.1.F rfl) (qs169.1.F rfl) (qs169.1.F rfl) (qs169.1.F rfl) (qs169.1.F rfl) (qs169.1.F rfl) (qs169.1.F rfl) (qs169.1.F rfl) (fun i => qs169.1.A (f := 26) (by decide) rfl) (qs169.1.FG g0 rfl) (qs169.1.FG g0 rfl) (qs169.1.FG g0 rfl) (qs169.1.FG g0 rfl) (qs169.1.FG g0 rfl) (fz_keep qs169.1 rfl) (RG.keep (c0 := 0) qs169.1 rfl rfl rfl rfl rfl rfl rfl rfl rfl rfl rfl rfl rfl rfl rfl rfl rfl rfl) qs169.2
                        refine z_iload_n hC (pc := 172) 5 dX14_readArgs_172 rfl rfl ?_
                        obtain ⟨hT, hF⟩ := h
                        refine y_if_eq hC (pc := 173) 189 hy55_2 dX14_readArgs_173 (by decide) (fun c => ?_) (fun c => ?_)
                        · have h := hT c
                          refine z_goto hC (pc := 189) 55 dX14_readArgs_189 (by decide) ?_
                          refine z_lvs [3, 4, 5, 1, 0] rfl ?_
                          obtain ⟨hI, hm⟩ := h
                          exact ih55 s169 y55_2 v88 1 Ws169 hy55_2 hv88 (r_lit rfl) (rKeep.tr (rKeep.tr (rKeep.tr (rKeep.tr (rKeep.tr (rKeep.tr (rKeep.tr rKeep.rf kJ rfl rfl rfl rfl rfl) qs83.1 rfl rfl rfl rfl rfl) qs88.1 rfl rfl rfl rfl rfl) (rKeep.sAk (f := 5) g0 (by decide)) rfl rfl rfl rfl rfl) qs134.1 rfl rfl rfl rfl rfl) (rKeep.sF0 (f := 29)) rfl rfl rfl rfl rfl) qs169.1 rfl rfl rfl rfl rfl) hI (by omega)
                        · have h := hF c
                          refine z_aload_n hC (pc := 176) 3 dX14_readArgs_176 rfl rfl ?_
                          obtain ⟨p27, h⟩ := h
                          refine y_callVi hC (pc := 177) (As := []) (kX14_isDots l G κ s169  Ws169  p27) dmX14_isDots zf14 rOb_0 dX14_readArgs_177 zw3250 rfl rfl (Nat.le_of_ble_eq_true rfl) (Nat.le_of_ble_eq_true rfl) (by omega) (by omega) (Nat.le_of_ble_eq_true rfl) (kk := fun v177 s177 hv177 Ws177 qs177 => ?_)
                          obtain ⟨es177, qs177⟩ := qs177
                          have es177 := es177.symm
                          subst es177
                          have h := h v177 hv177 qs177
                          obtain ⟨hT, hF⟩ := h
                          refine y_if_eq hC (pc := 180) 189 hv177 dX14_readArgs_180 (by decide) (fun c => ?_) (fun c => ?_)
                          · have h := hT c
                            refine z_goto hC (pc := 189) 55 dX14_readArgs_189 (by decide) ?_
                            refine z_lvs [3, 4, 5, 1, 0] rfl ?_
                            obtain ⟨hI, hm⟩ := h
                            exact ih55 s169 y55_2 v88 1 Ws169 hy55_2 hv88 (r_lit rfl) (rKeep.tr (rKeep.tr (rKeep.tr (rKeep.tr (rKeep.tr (rKeep.tr (rKeep.tr rKeep.rf kJ rfl rfl rfl rfl rfl) qs83.1 rfl rfl rfl rfl rfl) qs88.1 rfl rfl rfl rfl rfl) (rKeep.sAk (f := 5) g0 (by decide)) rfl rfl rfl rfl rfl) qs134.1 rfl rfl rfl rfl rfl) (rKeep.sF0 (f := 29)) rfl rfl rfl rfl rfl) qs169.1 rfl rfl rfl rfl rfl) hI (by omega)
                          · have h := hF c
                            refine z_aload_n hC (pc := 183) 3 dX14_readArgs_183 rfl rfl ?_
                            refine z_iload_n hC (pc := 184) 4 dX14_readArgs_184 rfl rfl ?_
                            obtain ⟨p28, h⟩ := h
                            refine y_callVv hC (pc := 185) (As := [iv x1]) (kX14_dots_t l G κ s169 x1 gg Ws169 hx1 p28) dmX14_dots zf14 rOb_0 dX14_readArgs_185 zw3254 rfl rfl (Nat.le_of_ble_eq_true rfl) (Nat.le_of_ble_eq_true rfl) (by omega) (by omega) (Nat.le_of_ble_eq_true rfl) (kk := fun s185 Ws185 qs185 => ?_)
                            have h := h s185 Ws185 (rNMp.keep qs185.1 rfl rfl rfl rfl rfl) (TPRp.keep qs185.1 rfl rfl rfl) (WNp.keep qs185.1 rfl rfl rfl rfl rfl) (PNp.keep qs185.1 rfl rfl rfl rfl rfl) (CCp.keep qs185.1 rfl rfl rfl rfl rfl rfl rfl) (qs185.1.R rfl) (qs185.1.F rfl) (qs185.1.F rfl) (qs185.1.F rfl) (qs185.1.F rfl) (qs185.1.F rfl) (qs185.1.F rfl) (qs185.1.F rfl) (qs185.1.F rfl) (qs185.1.F rfl) (fun i => qs185.1.A (f := 26) (by decide) rfl) (qs185.1.FG g0 rfl) (qs185.1.FG g0 rfl) (qs185.1.FG g0 rfl) (qs185.1.FG g0 rfl) (qs185.1.FG g0 rfl) qs185.2
                            exact y_retv hR dX14_readArgs_188 Ws185 (Nat.le_of_ble_eq_true rfl) (Nat.le_of_ble_eq_true rfl) ⟨(rKeep.tr (rKeep.tr (rKeep.tr (rKeep.tr (rKeep.tr (rKeep.tr (rKeep.tr (rKeep.tr rKeep.rf kJ rfl rfl rfl rfl rfl) qs83.1 rfl rfl rfl rfl rfl) qs88.1 rfl rfl rfl rfl rfl) (rKeep.sAk (f := 5) g0 (by decide)) rfl rfl rfl rfl rfl) qs134.1 rfl rfl rfl rfl rfl) (rKeep.sF0 (f := 29)) rfl rfl rfl rfl rfl) qs169.1 rfl rfl rfl rfl rfl) qs185.1 rfl rfl rfl rfl rfl), h⟩
                    · have h := hF c
                      refine z_aload_n hC (pc := 105) 1 dX14_readArgs_105 rfl rfl ?_
                      refine y_get hC (pc := 106) zf14 rOb_0 7 (v := .ref (κ (rR σ 7))) dX14_readArgs_106 zw2475 (rv_g rfl ((qs88.1.R rfl).trans ((qs83.1.R rfl).trans (kJ.R rfl))) g0) (kk := ?_)
                      refine y_getN hC (pc := 109) zf13 (rOb_k g0) 2 (v := .ref (κ (1000 * ((rR σ 7) + 1) + 2))) dX14_readArgs_109 zw2314 (rv_c rfl) (kk := ?_)
                      refine z_iload_n hC (pc := 112) 2 dX14_readArgs_112 rfl rfl ?_
                      refine z_iload hC (pc := 113) 0 dX14_readArgs_113 rfl ?_
                      obtain ⟨b29, h⟩ := h
                      refine y_iast hC (pc := 115) (rAr_k g0 rfl rfl) dX14_readArgs_115 b29 (v := v88) (kk := ?_)
                      have W30 := Ws88.sA (p := (1000 * ((rR σ 7) + 1) + 2)) (i := x1) (x := v88) hv88
                      refine z_goto hC (pc := 116) 130 dX14_readArgs_116 (by decide) ?_
                      refine z_iload hC (pc := 130) 0 dX14_readArgs_130 rfl ?_
                      refine z_istore_n hC (pc := 132) (lv' := [(3, iv v88), (5, iv v88), (0, .ref (κ 0)), (1, iv x1), (2, iv y55_2), (4, iv y55_4)]) dX14_readArgs_132 rfl (by decide) rfl ?_
                      refine z_aload_n hC (pc := 133) 2 dX14_readArgs_133 rfl rfl ?_
                      obtain ⟨p31, h⟩ := h
                      refine y_callVv hC (pc := 134) (As := []) (kX14_blanks l G κ (sT s88 (rR σ 7) 2 x1 v88)  W30  p31) dmX14_blanks zf14 rOb_0 dX14_readArgs_134 zw3119 rfl rfl (Nat.le_of_ble_eq_true rfl) (Nat.le_of_ble_eq_true rfl) (by omega) (by omega) (Nat.le_of_ble_eq_true rfl) (kk := fun s134 Ws134 qs134 => ?_)
                      have h := h s134 Ws134 (rNMp.keep qs134.1 rfl rfl rfl rfl rfl) (TPRp.keep qs134.1 rfl rfl rfl) (WNp.keep qs134.1 rfl rfl rfl rfl rfl) (PNp.keep qs134.1 rfl rfl rfl rfl rfl) (CCp.keep qs134.1 rfl rfl rfl rfl rfl rfl rfl) (qs134.1.R rfl) (qs134.1.F rfl) (qs134.1.F rfl) (qs134.1.F rfl) (qs134.1.F rfl) (qs134.1.F rfl) (qs134.1.F rfl) (qs134.1.F rfl) (qs134.1.F rfl) (qs134.1.F rfl) (qs134.1.F rfl) (fun i => qs134.1.A (f := 26) (by decide) rfl) (qs134.1.FG g0 rfl) (qs134.1.FG g0 rfl) (qs134.1.FG g0 rfl) (qs134.1.FG g0 rfl) (qs134.1.FG g0 rfl) (fz_keep qs134.1 rfl) (RG.keep (c0 := 0) qs134.1 rfl rfl rfl rfl rfl rfl rfl rfl rfl rfl rfl rfl rfl rfl rfl rfl rfl rfl) qs134.2
                      refine z_aload_n hC (pc := 137) 2 dX14_readArgs_137 rfl rfl ?_
                      obtain ⟨p32, h⟩ := h
                      refine y_callVi hC (pc := 138) (As := []) (kX14_here l G κ s134  Ws134  p32) dmX14_here zf14 rOb_0 dX14_readArgs_138 zw3099 rfl rfl (Nat.le_of_ble_eq_true rfl) (Nat.le_of_ble_eq_true rfl) (by omega) (by omega) (Nat.le_of_ble_eq_true rfl) (kk := fun v138 s138 hv138 Ws138 qs138 => ?_)
                      obtain ⟨es138, qs138⟩ := qs138
                      have es138 := es138.symm
                      subst es138
                      have h := h v138 hv138 qs138
                      refine z_bipush hC (pc := 141) (v := Int32.ofInt 44) dX14_readArgs_141 (by decide) ?_
                      obtain ⟨hT, hF⟩ := h
                      refine y_icmp_ne hC (pc := 143) 150 hv138 (r_lit rfl) dX14_readArgs_143 (by decide) (fun c => ?_) (fun c => ?_)
                      · have h := hT c
                        refine z_iconst hC (pc := 150) (v := Int32.ofInt 0) dX14_readArgs_150 (by decide) ?_
                        refine z_istore hC (pc := 151) (lv' := [(4, iv 0), (3, iv v88), (5, iv v88), (0, .ref (κ 0)), (1, iv x1), (2, iv y55_2)]) dX14_readArgs_151 (by decide) rfl ?_
                        refine z_iload hC (pc := 153) 0 dX14_readArgs_153 rfl ?_
                        refine y_if_eq hC (pc := 155) 189 (r_lit rfl) dX14_readArgs_155 (by decide) (fun _ => ?_) (fun c => absurd c (by decide))
                        refine z_goto hC (pc := 189) 55 dX14_readArgs_189 (by decide) ?_
                        refine z_lvs [3, 4, 5, 1, 0] rfl ?_
                        obtain ⟨hI, hm⟩ := h
                        exact ih55 s134 y55_2 v88 0 Ws134 hy55_2 hv88 (r_lit rfl) (rKeep.tr (rKeep.tr (rKeep.tr (rKeep.tr (rKeep.tr rKeep.rf kJ rfl rfl rfl rfl rfl) qs83.1 rfl rfl rfl rfl rfl) qs88.1 rfl rfl rfl rfl rfl) (rKeep.sAk (f := 2) g0 (by decide)) rfl rfl rfl rfl rfl) qs134.1 rfl rfl rfl rfl rfl) hI (by omega)
                      · have h := hF c
                        refine z_iconst hC (pc := 146) (v := Int32.ofInt 1) dX14_readArgs_146 (by decide) ?_
                        refine z_goto hC (pc := 147) 151 dX14_readArgs_147 (by decide) ?_
                        refine z_istore hC (pc := 151) (lv' := [(4, iv 1), (3, iv v88), (5, iv v88), (0, .ref (κ 0)), (1, iv x1), (2, iv y55_2)]) dX14_readArgs_151 (by decide) rfl ?_
                        refine z_iload hC (pc := 153) 0 dX14_readArgs_153 rfl ?_
                        refine y_if_eq hC (pc := 155) 189 (r_lit rfl) dX14_readArgs_155 (by decide) (fun c => absurd c (by decide)) (fun _ => ?_)
                        refine z_aload_n hC (pc := 158) 3 dX14_readArgs_158 rfl rfl ?_
                        refine z_dup hC (pc := 159) dX14_readArgs_159 rfl ?_
                        refine y_get hC (pc := 160) zf14 rOb_0 29 (v := iv (rF s134 0 29)) dX14_readArgs_160 zw2496 (rv_i (Or.inl rfl) rfl) (kk := ?_)
                        have h := h (Ws134.f _ _)
                        refine z_iconst hC (pc := 163) (v := Int32.ofInt 1) dX14_readArgs_163 (by decide) ?_
                        refine y_iadd hC (pc := 164) (v := ((rF s134 0 29) + 1)) dX14_readArgs_164 rfl ?_
                        obtain ⟨r33, h⟩ := h
                        refine y_putI hC (pc := 165) zf14 rOb_0 29 (x := ((rF s134 0 29) + 1)) dX14_readArgs_165 zw2496 (Or.inl rfl) rfl rfl (kk := ?_)
                        have W34 := Ws134.sF (q := 0) (f := 29) (x := ((rF s134 0 29) + 1)) r33
                        refine z_aload_n hC (pc := 168) 3 dX14_readArgs_168 rfl rfl ?_
                        obtain ⟨p35, h⟩ := h
                        refine y_callVv hC (pc := 169) (As := []) (kX14_blanks l G κ (sF s134 0 29 ((rF s134 0 29) + 1))  W34  p35) dmX14_blanks zf14 rOb_0 dX14_readArgs_169 zw3119 rfl rfl (Nat.le_of_ble_eq_true rfl) (Nat.le_of_ble_eq_true rfl) (by omega) (by omega) (Nat.le_of_ble_eq_true rfl) (kk := fun s169 Ws169 qs169 => ?_)
                        have h := h s169 Ws169 (rNMp.keep qs169.1 rfl rfl rfl rfl rfl) (TPRp.keep qs169.1 rfl rfl rfl) (WNp.keep qs169.1 rfl rfl rfl rfl rfl) (PNp.keep qs169.1 rfl rfl rfl rfl rfl) (CCp.keep qs169.1 rfl rfl rfl rfl rfl rfl rfl) (qs169.1.R rfl) (qs169.1.F rfl) (qs169.1.F rfl) (qs169.1.F rfl) (qs169.1.F rfl) (qs169.1.F rfl) (qs169.1.F rfl) (qs169.1.F rfl) (qs169.1.F rfl) (qs169.1.F rfl) (qs169.1.F rfl) (fun i => qs169.1.A (f := 26) (by decide) rfl) (qs169.1.FG g0 rfl) (qs169.1.FG g0 rfl) (qs169.1.FG g0 rfl) (qs169.1.FG g0 rfl) (qs169.1.FG g0 rfl) (fz_keep qs169.1 rfl) (RG.keep (c0 := 0) qs169.1 rfl rfl rfl rfl rfl rfl rfl rfl rfl rfl rfl rfl rfl rfl rfl rfl rfl rfl) qs169.2
                        refine z_iload_n hC (pc := 172) 5 dX14_readArgs_172 rfl rfl ?_
                        obtain ⟨hT, hF⟩ := h
                        refine y_if_eq hC (pc := 173) 189 hy55_2 dX14_readArgs_173 (by decide) (fun c => ?_) (fun c => ?_)
                        · have h := hT c
                          refine z_goto hC (pc := 189) 55 dX14_readArgs_189 (by decide) ?_
                          refine z_lvs [3, 4, 5, 1, 0] rfl ?_
                          obtain ⟨hI, hm⟩ := h
                          exact ih55 s169 y55_2 v88 1 Ws169 hy55_2 hv88 (r_lit rfl) (rKeep.tr (rKeep.tr (rKeep.tr (rKeep.tr (rKeep.tr (rKeep.tr (rKeep.tr rKeep.rf kJ rfl rfl rfl rfl rfl) qs83.1 rfl rfl rfl rfl rfl) qs88.1 rfl rfl rfl rfl rfl) (rKeep.sAk (f := 2) g0 (by decide)) rfl rfl rfl rfl rfl) qs134.1 rfl rfl rfl rfl rfl) (rKeep.sF0 (f := 29)) rfl rfl rfl rfl rfl) qs169.1 rfl rfl rfl rfl rfl) hI (by omega)
                        · have h := hF c
                          refine z_aload_n hC (pc := 176) 3 dX14_readArgs_176 rfl rfl ?_
                          obtain ⟨p36, h⟩ := h
                          refine y_callVi hC (pc := 177) (As := []) (kX14_isDots l G κ s169  Ws169  p36) dmX14_isDots zf14 rOb_0 dX14_readArgs_177 zw3250 rfl rfl (Nat.le_of_ble_eq_true rfl) (Nat.le_of_ble_eq_true rfl) (by omega) (by omega) (Nat.le_of_ble_eq_true rfl) (kk := fun v177 s177 hv177 Ws177 qs177 => ?_)
                          obtain ⟨es177, qs177⟩ := qs177
                          have es177 := es177.symm
                          subst es177
                          have h := h v177 hv177 qs177
                          obtain ⟨hT, hF⟩ := h
                          refine y_if_eq hC (pc := 180) 189 hv177 dX14_readArgs_180 (by decide) (fun c => ?_) (fun c => ?_)
                          · have h := hT c
                            refine z_goto hC (pc := 189) 55 dX14_readArgs_189 (by decide) ?_
                            refine z_lvs [3, 4, 5, 1, 0] rfl ?_
                            obtain ⟨hI, hm⟩ := h
                            exact ih55 s169 y55_2 v88 1 Ws169 hy55_2 hv88 (r_lit rfl) (rKeep.tr (rKeep.tr (rKeep.tr (rKeep.tr (rKeep.tr (rKeep.tr (rKeep.tr rKeep.rf kJ rfl rfl rfl rfl rfl) qs83.1 rfl rfl rfl rfl rfl) qs88.1 rfl rfl rfl rfl rfl) (rKeep.sAk (f := 2) g0 (by decide)) rfl rfl rfl rfl rfl) qs134.1 rfl rfl rfl rfl rfl) (rKeep.sF0 (f := 29)) rfl rfl rfl rfl rfl) qs169.1 rfl rfl rfl rfl rfl) hI (by omega)
                          · have h := hF c
                            refine z_aload_n hC (pc := 183) 3 dX14_readArgs_183 rfl rfl ?_
                            refine z_iload_n hC (pc := 184) 4 dX14_readArgs_184 rfl rfl ?_
                            obtain ⟨p37, h⟩ := h
                            refine y_callVv hC (pc := 185) (As := [iv x1]) (kX14_dots_t l G κ s169 x1 gg Ws169 hx1 p37) dmX14_dots zf14 rOb_0 dX14_readArgs_185 zw3254 rfl rfl (Nat.le_of_ble_eq_true rfl) (Nat.le_of_ble_eq_true rfl) (by omega) (by omega) (Nat.le_of_ble_eq_true rfl) (kk := fun s185 Ws185 qs185 => ?_)
                            have h := h s185 Ws185 (rNMp.keep qs185.1 rfl rfl rfl rfl rfl) (TPRp.keep qs185.1 rfl rfl rfl) (WNp.keep qs185.1 rfl rfl rfl rfl rfl) (PNp.keep qs185.1 rfl rfl rfl rfl rfl) (CCp.keep qs185.1 rfl rfl rfl rfl rfl rfl rfl) (qs185.1.R rfl) (qs185.1.F rfl) (qs185.1.F rfl) (qs185.1.F rfl) (qs185.1.F rfl) (qs185.1.F rfl) (qs185.1.F rfl) (qs185.1.F rfl) (qs185.1.F rfl) (qs185.1.F rfl) (fun i => qs185.1.A (f := 26) (by decide) rfl) (qs185.1.FG g0 rfl) (qs185.1.FG g0 rfl) (qs185.1.FG g0 rfl) (qs185.1.FG g0 rfl) (qs185.1.FG g0 rfl) qs185.2
                            exact y_retv hR dX14_readArgs_188 Ws185 (Nat.le_of_ble_eq_true rfl) (Nat.le_of_ble_eq_true rfl) ⟨(rKeep.tr (rKeep.tr (rKeep.tr (rKeep.tr (rKeep.tr (rKeep.tr (rKeep.tr (rKeep.tr rKeep.rf kJ rfl rfl rfl rfl rfl) qs83.1 rfl rfl rfl rfl rfl) qs88.1 rfl rfl rfl rfl rfl) (rKeep.sAk (f := 2) g0 (by decide)) rfl rfl rfl rfl rfl) qs134.1 rfl rfl rfl rfl rfl) (rKeep.sF0 (f := 29)) rfl rfl rfl rfl rfl) qs169.1 rfl rfl rfl rfl rfl) qs185.1 rfl rfl rfl rfl rfl), h⟩
                  · have h := hF c
                    exact y_retv hR dX14_readArgs_100 Ws88 (Nat.le_of_ble_eq_true rfl) (Nat.le_of_ble_eq_true rfl) ⟨(rKeep.tr (rKeep.tr (rKeep.tr rKeep.rf kJ rfl rfl rfl rfl rfl) qs83.1 rfl rfl rfl rfl rfl) qs88.1 rfl rfl rfl rfl rfl), h⟩
                · have h := hF c
                  refine z_aload_n hC (pc := 71) 0 dX14_readArgs_71 rfl rfl ?_
                  refine z_iload_n hC (pc := 72) 1 dX14_readArgs_72 rfl rfl ?_
                  obtain ⟨g38, h⟩ := h
                  obtain ⟨K39, h⟩ := h
                  obtain ⟨p40, h⟩ := h
                  obtain ⟨p41, h⟩ := h
                  refine y_callVi hC (pc := 73) (As := [iv x1]) (qX14_readNamed ih s55 x1 gg g38 K39 Ws55 hx1 p40 p41) dmX14_readNamed zf14 rOb_0 dX14_readArgs_73 zw3262 rfl rfl (Nat.le_of_ble_eq_true rfl) (Nat.le_of_ble_eq_true rfl) (by omega) (by omega) (Nat.le_of_ble_eq_true rfl) (kk := fun v73 s73 hv73 Ws73 qs73 => ?_)
                  have h := h v73 s73 hv73 Ws73 (TPRp.keep qs73.1 rfl rfl rfl) (CCp.keep qs73.1 rfl rfl rfl rfl rfl rfl rfl) (qs73.1.R rfl) (qs73.1.F rfl) (qs73.1.F rfl) (qs73.1.F rfl) (qs73.1.F rfl) (qs73.1.F rfl) (qs73.1.F rfl) (fun i => qs73.1.A (f := 26) (by decide) rfl) qs73.2
                  refine z_goto hC (pc := 76) 91 dX14_readArgs_76 (by decide) ?_
                  refine z_istore hC (pc := 91) (lv' := [(5, iv v73), (0, .ref (κ 0)), (1, iv x1), (2, iv y55_2), (3, iv y55_3), (4, iv y55_4)]) dX14_readArgs_91 (by decide) rfl ?_
                  refine z_aload_n hC (pc := 93) 1 dX14_readArgs_93 rfl rfl ?_
                  refine y_get hC (pc := 94) zf14 rOb_0 10 (v := iv (rF s73 0 10)) dX14_readArgs_94 zw2478 (rv_i (Or.inl rfl) rfl) (kk := ?_)
                  have h := h (Ws73.f _ _)
                  obtain ⟨hT, hF⟩ := h
                  refine y_if_eq hC (pc := 97) 101 (Ws73.f _ _) dX14_readArgs_97 (by decide) (fun c => ?_) (fun c => ?_)
                  · have h := hT c
                    refine z_iload_n hC (pc := 101) 4 dX14_readArgs_101 rfl rfl ?_
                    obtain ⟨hT, hF⟩ := h
                    refine y_if_ne hC (pc := 102) 119 hy55_3 dX14_readArgs_102 (by decide) (fun c => ?_) (fun c => ?_)
                    · have h := hT c
                      refine z_aload_n hC (pc := 119) 1 dX14_readArgs_119 rfl rfl ?_
                      refine y_get hC (pc := 120) zf14 rOb_0 7 (v := .ref (κ (rR σ 7))) dX14_readArgs_120 zw2475 (rv_g rfl ((qs73.1.R rfl).trans (kJ.R rfl)) g0) (kk := ?_)
                      refine y_getN hC (pc := 123) zf13 (rOb_k g0) 5 (v := .ref (κ (1000 * ((rR σ 7) + 1) + 5))) dX14_readArgs_123 zw2320 (rv_c rfl) (kk := ?_)
                      refine z_iload_n hC (pc := 126) 4 dX14_readArgs_126 rfl rfl ?_
                      refine z_iload hC (pc := 127) 0 dX14_readArgs_127 rfl ?_
                      obtain ⟨b42, h⟩ := h
                      refine y_iast hC (pc := 129) (rAr_k g0 rfl rfl) dX14_readArgs_129 b42 (v := v73) (kk := ?_)
                      have W43 := Ws73.sA (p := (1000 * ((rR σ 7) + 1) + 5)) (i := y55_3) (x := v73) hv73
                      refine z_iload hC (pc := 130) 0 dX14_readArgs_130 rfl ?_
                      refine z_istore_n hC (pc := 132) (lv' := [(3, iv v73), (5, iv v73), (0, .ref (κ 0)), (1, iv x1), (2, iv y55_2), (4, iv y55_4)]) dX14_readArgs_132 rfl (by decide) rfl ?_
                      refine z_aload_n hC (pc := 133) 2 dX14_readArgs_133 rfl rfl ?_
                      obtain ⟨p44, h⟩ := h
                      refine y_callVv hC (pc := 134) (As := []) (kX14_blanks l G κ (sT s73 (rR σ 7) 5 y55_3 v73)  W43  p44) dmX14_blanks zf14 rOb_0 dX14_readArgs_134 zw3119 rfl rfl (Nat.le_of_ble_eq_true rfl) (Nat.le_of_ble_eq_true rfl) (by omega) (by omega) (Nat.le_of_ble_eq_true rfl) (kk := fun s134 Ws134 qs134 => ?_)
                      have h := h s134 Ws134 (rNMp.keep qs134.1 rfl rfl rfl rfl rfl) (TPRp.keep qs134.1 rfl rfl rfl) (WNp.keep qs134.1 rfl rfl rfl rfl rfl) (PNp.keep qs134.1 rfl rfl rfl rfl rfl) (CCp.keep qs134.1 rfl rfl rfl rfl rfl rfl rfl) (qs134.1.R rfl) (qs134.1.F rfl) (qs134.1.F rfl) (qs134.1.F rfl) (qs134.1.F rfl) (qs134.1.F rfl) (qs134.1.F rfl) (qs134.1.F rfl) (qs134.1.F rfl) (qs134.1.F rfl) (qs134.1.F rfl) (fun i => qs134.1.A (f := 26) (by decide) rfl) (qs134.1.FG g0 rfl) (qs134.1.FG g0 rfl) (qs134.1.FG g0 rfl) (qs134.1.FG g0 rfl) (qs134.1.FG g0 rfl) (fz_keep qs134.1 rfl) (RG.keep (c0 := 0) qs134.1 rfl rfl rfl rfl rfl rfl rfl rfl rfl rfl rfl rfl rfl rfl rfl rfl rfl rfl) qs134.2
                      refine z_aload_n hC (pc := 137) 2 dX14_readArgs_137 rfl rfl ?_
                      obtain ⟨p45, h⟩ := h
                      refine y_callVi hC (pc := 138) (As := []) (kX14_here l G κ s134  Ws134  p45) dmX14_here zf14 rOb_0 dX14_readArgs_138 zw3099 rfl rfl (Nat.le_of_ble_eq_true rfl) (Nat.le_of_ble_eq_true rfl) (by omega) (by omega) (Nat.le_of_ble_eq_true rfl) (kk := fun v138 s138 hv138 Ws138 qs138 => ?_)
                      obtain ⟨es138, qs138⟩ := qs138
                      have es138 := es138.symm
                      subst es138
                      have h := h v138 hv138 qs138
                      refine z_bipush hC (pc := 141) (v := Int32.ofInt 44) dX14_readArgs_141 (by decide) ?_
                      obtain ⟨hT, hF⟩ := h
                      refine y_icmp_ne hC (pc := 143) 150 hv138 (r_lit rfl) dX14_readArgs_143 (by decide) (fun c => ?_) (fun c => ?_)
                      · have h := hT c
                        refine z_iconst hC (pc := 150) (v := Int32.ofInt 0) dX14_readArgs_150 (by decide) ?_
                        refine z_istore hC (pc := 151) (lv' := [(4, iv 0), (3, iv v73), (5, iv v73), (0, .ref (κ 0)), (1, iv x1), (2, iv y55_2)]) dX14_readArgs_151 (by decide) rfl ?_
                        refine z_iload hC (pc := 153) 0 dX14_readArgs_153 rfl ?_
                        refine y_if_eq hC (pc := 155) 189 (r_lit rfl) dX14_readArgs_155 (by decide) (fun _ => ?_) (fun c => absurd c (by decide))
                        refine z_goto hC (pc := 189) 55 dX14_readArgs_189 (by decide) ?_
                        refine z_lvs [3, 4, 5, 1, 0] rfl ?_
                        obtain ⟨hI, hm⟩ := h
                        exact ih55 s134 y55_2 v73 0 Ws134 hy55_2 hv73 (r_lit rfl) (rKeep.tr (rKeep.tr (rKeep.tr (rKeep.tr rKeep.rf kJ rfl rfl rfl rfl rfl) qs73.1 rfl rfl rfl rfl rfl) (rKeep.sAk (f := 5) g0 (by decide)) rfl rfl rfl rfl rfl) qs134.1 rfl rfl rfl rfl rfl) hI (by omega)
                      · have h := hF c
                        refine z_iconst hC (pc := 146) (v := Int32.ofInt 1) dX14_readArgs_146 (by decide) ?_
                        refine z_goto hC (pc := 147) 151 dX14_readArgs_147 (by decide) ?_
                        refine z_istore hC (pc := 151) (lv' := [(4, iv 1), (3, iv v73), (5, iv v73), (0, .ref (κ 0)), (1, iv x1), (2, iv y55_2)]) dX14_readArgs_151 (by decide) rfl ?_
                        refine z_iload hC (pc := 153) 0 dX14_readArgs_153 rfl ?_
                        refine y_if_eq hC (pc := 155) 189 (r_lit rfl) dX14_readArgs_155 (by decide) (fun c => absurd c (by decide)) (fun _ => ?_)
                        refine z_aload_n hC (pc := 158) 3 dX14_readArgs_158 rfl rfl ?_
                        refine z_dup hC (pc := 159) dX14_readArgs_159 rfl ?_
                        refine y_get hC (pc := 160) zf14 rOb_0 29 (v := iv (rF s134 0 29)) dX14_readArgs_160 zw2496 (rv_i (Or.inl rfl) rfl) (kk := ?_)
                        have h := h (Ws134.f _ _)
                        refine z_iconst hC (pc := 163) (v := Int32.ofInt 1) dX14_readArgs_163 (by decide) ?_
                        refine y_iadd hC (pc := 164) (v := ((rF s134 0 29) + 1)) dX14_readArgs_164 rfl ?_
                        obtain ⟨r46, h⟩ := h
                        refine y_putI hC (pc := 165) zf14 rOb_0 29 (x := ((rF s134 0 29) + 1)) dX14_readArgs_165 zw2496 (Or.inl rfl) rfl rfl (kk := ?_)
                        have W47 := Ws134.sF (q := 0) (f := 29) (x := ((rF s134 0 29) + 1)) r46
                        refine z_aload_n hC (pc := 168) 3 dX14_readArgs_168 rfl rfl ?_
                        obtain ⟨p48, h⟩ := h
                        refine y_callVv hC (pc := 169) (As := []) (kX14_blanks l G κ (sF s134 0 29 ((rF s134 0 29) + 1))  W47  p48) dmX14_blanks zf14 rOb_0 dX14_readArgs_169 zw3119 rfl rfl (Nat.le_of_ble_eq_true rfl) (Nat.le_of_ble_eq_true rfl) (by omega) (by omega) (Nat.le_of_ble_eq_true rfl) (kk := fun s169 Ws169 qs169 => ?_)
                        have h := h s169 Ws169 (rNMp.keep qs169.1 rfl rfl rfl rfl rfl) (TPRp.keep qs169.1 rfl rfl rfl) (WNp.keep qs169.1 rfl rfl rfl rfl rfl) (PNp.keep qs169.1 rfl rfl rfl rfl rfl) (CCp.keep qs169.1 rfl rfl rfl rfl rfl rfl rfl) (qs169.1.R rfl) (qs169.1.F rfl) (qs169.1.F rfl) (qs169.1.F rfl) (qs169.1.F rfl) (qs169.1.F rfl) (qs169.1.F rfl) (qs169.1.F rfl) (qs169.1.F rfl) (qs169.1.F rfl) (qs169.1.F rfl) (fun i => qs169.1.A (f := 26) (by decide) rfl) (qs169.1.FG g0 rfl) (qs169.1.FG g0 rfl) (qs169.1.FG g0 rfl) (qs169.1.FG g0 rfl) (qs169.1.FG g0 rfl) (fz_keep qs169.1 rfl) (RG.keep (c0 := 0) qs169.1 rfl rfl rfl rfl rfl rfl rfl rfl rfl rfl rfl rfl rfl rfl rfl rfl rfl rfl) qs169.2
                        refine z_iload_n hC (pc := 172) 5 dX14_readArgs_172 rfl rfl ?_
                        obtain ⟨hT, hF⟩ := h
                        refine y_if_eq hC (pc := 173) 189 hy55_2 dX14_readArgs_173 (by decide) (fun c => ?_) (fun c => ?_)
                        · have h := hT c
                          refine z_goto hC (pc := 189) 55 dX14_readArgs_189 (by decide) ?_
                          refine z_lvs [3, 4, 5, 1, 0] rfl ?_
                          obtain ⟨hI, hm⟩ := h
                          exact ih55 s169 y55_2 v73 1 Ws169 hy55_2 hv73 (r_lit rfl) (rKeep.tr (rKeep.tr (rKeep.tr (rKeep.tr (rKeep.tr (rKeep.tr rKeep.rf kJ rfl rfl rfl rfl rfl) qs73.1 rfl rfl rfl rfl rfl) (rKeep.sAk (f := 5) g0 (by decide)) rfl rfl rfl rfl rfl) qs134.1 rfl rfl rfl rfl rfl) (rKeep.sF0 (f := 29)) rfl rfl rfl rfl rfl) qs169.1 rfl rfl rfl rfl rfl) hI (by omega)
                        · have h := hF c
                          refine z_aload_n hC (pc := 176) 3 dX14_readArgs_176 rfl rfl ?_
                          obtain ⟨p49, h⟩ := h
                          refine y_callVi hC (pc := 177) (As := []) (kX14_isDots l G κ s169  Ws169  p49) dmX14_isDots zf14 rOb_0 dX14_readArgs_177 zw3250 rfl rfl (Nat.le_of_ble_eq_true rfl) (Nat.le_of_ble_eq_true rfl) (by omega) (by omega) (Nat.le_of_ble_eq_true rfl) (kk := fun v177 s177 hv177 Ws177 qs177 => ?_)
                          obtain ⟨es177, qs177⟩ := qs177
                          have es177 := es177.symm
                          subst es177
                          have h := h v177 hv177 qs177
                          obtain ⟨hT, hF⟩ := h
                          refine y_if_eq hC (pc := 180) 189 hv177 dX14_readArgs_180 (by decide) (fun c => ?_) (fun c => ?_)
                          · have h := hT c
                            refine z_goto hC (pc := 189) 55 dX14_readArgs_189 (by decide) ?_
                            refine z_lvs [3, 4, 5, 1, 0] rfl ?_
                            obtain ⟨hI, hm⟩ := h
                            exact ih55 s169 y55_2 v73 1 Ws169 hy55_2 hv73 (r_lit rfl) (rKeep.tr (rKeep.tr (rKeep.tr (rKeep.tr (rKeep.tr (rKeep.tr rKeep.rf kJ rfl rfl rfl rfl rfl) qs73.1 rfl rfl rfl rfl rfl) (rKeep.sAk (f := 5) g0 (by decide)) rfl rfl rfl rfl rfl) qs134.1 rfl rfl rfl rfl rfl) (rKeep.sF0 (f := 29)) rfl rfl rfl rfl rfl) qs169.1 rfl rfl rfl rfl rfl) hI (by omega)
                          · have h := hF c
                            refine z_aload_n hC (pc := 183) 3 dX14_readArgs_183 rfl rfl ?_
                            refine z_iload_n hC (pc := 184) 4 dX14_readArgs_184 rfl rfl ?_
                            obtain ⟨p50, h⟩ := h
                            refine y_callVv hC (pc := 185) (As := [iv x1]) (kX14_dots_t l G κ s169 x1 gg Ws169 hx1 p50) dmX14_dots zf14 rOb_0 dX14_readArgs_185 zw3254 rfl rfl (Nat.le_of_ble_eq_true rfl) (Nat.le_of_ble_eq_true rfl) (by omega) (by omega) (Nat.le_of_ble_eq_true rfl) (kk := fun s185 Ws185 qs185 => ?_)
                            have h := h s185 Ws185 (rNMp.keep qs185.1 rfl rfl rfl rfl rfl) (TPRp.keep qs185.1 rfl rfl rfl) (WNp.keep qs185.1 rfl rfl rfl rfl rfl) (PNp.keep qs185.1 rfl rfl rfl rfl rfl) (CCp.keep qs185.1 rfl rfl rfl rfl rfl rfl rfl) (qs185.1.R rfl) (qs185.1.F rfl) (qs185.1.F rfl) (qs185.1.F rfl) (qs185.1.F rfl) (qs185.1.F rfl) (qs185.1.F rfl) (qs185.1.F rfl) (qs185.1.F rfl) (qs185.1.F rfl) (fun i => qs185.1.A (f := 26) (by decide) rfl) (qs185.1.FG g0 rfl) (qs185.1.FG g0 rfl) (qs185.1.FG g0 rfl) (qs185.1.FG g0 rfl) (qs185.1.FG g0 rfl) qs185.2
                            exact y_retv hR dX14_readArgs_188 Ws185 (Nat.le_of_ble_eq_true rfl) (Nat.le_of_ble_eq_true rfl) ⟨(rKeep.tr (rKeep.tr (rKeep.tr (rKeep.tr (rKeep.tr (rKeep.tr (rKeep.tr rKeep.rf kJ rfl rfl rfl rfl rfl) qs73.1 rfl rfl rfl rfl rfl) (rKeep.sAk (f := 5) g0 (by decide)) rfl rfl rfl rfl rfl) qs134.1 rfl rfl rfl rfl rfl) (rKeep.sF0 (f := 29)) rfl rfl rfl rfl rfl) qs169.1 rfl rfl rfl rfl rfl) qs185.1 rfl rfl rfl rfl rfl), h⟩
                    · have h := hF c
                      refine z_aload_n hC (pc := 105) 1 dX14_readArgs_105 rfl rfl ?_
                      refine y_get hC (pc := 106) zf14 rOb_0 7 (v := .ref (κ (rR σ 7))) dX14_readArgs_106 zw2475 (rv_g rfl ((qs73.1.R rfl).trans (kJ.R rfl)) g0) (kk := ?_)
                      refine y_getN hC (pc := 109) zf13 (rOb_k g0) 2 (v := .ref (κ (1000 * ((rR σ 7) + 1) + 2))) dX14_readArgs_109 zw2314 (rv_c rfl) (kk := ?_)
                      refine z_iload_n hC (pc := 112) 2 dX14_readArgs_112 rfl rfl ?_
                      refine z_iload hC (pc := 113) 0 dX14_readArgs_113 rfl ?_
                      obtain ⟨b51, h⟩ := h
                      refine y_iast hC (pc := 115) (rAr_k g0 rfl rfl) dX14_readArgs_115 b51 (v := v73) (kk := ?_)
                      have W52 := Ws73.sA (p := (1000 * ((rR σ 7) + 1) + 2)) (i := x1) (x := v73) hv73
                      refine z_goto hC (pc := 116) 130 dX14_readArgs_116 (by decide) ?_
                      refine z_iload hC (pc := 130) 0 dX14_readArgs_130 rfl ?_
                      refine z_istore_n hC (pc := 132) (lv' := [(3, iv v73), (5, iv v73), (0, .ref (κ 0)), (1, iv x1), (2, iv y55_2), (4, iv y55_4)]) dX14_readArgs_132 rfl (by decide) rfl ?_
                      refine z_aload_n hC (pc := 133) 2 dX14_readArgs_133 rfl rfl ?_
                      obtain ⟨p53, h⟩ := h
                      refine y_callVv hC (pc := 134) (As := []) (kX14_blanks l G κ (sT s73 (rR σ 7) 2 x1 v73)  W52  p53) dmX14_blanks zf14 rOb_0 dX14_readArgs_134 zw3119 rfl rfl (Nat.le_of_ble_eq_true rfl) (Nat.le_of_ble_eq_true rfl) (by omega) (by omega) (Nat.le_of_ble_eq_true rfl) (kk := fun s134 Ws134 qs134 => ?_)
                      have h := h s134 Ws134 (rNMp.keep qs134.1 rfl rfl rfl rfl rfl) (TPRp.keep qs134.1 rfl rfl rfl) (WNp.keep qs134.1 rfl rfl rfl rfl rfl) (PNp.keep qs134.1 rfl rfl rfl rfl rfl) (CCp.keep qs134.1 rfl rfl rfl rfl rfl rfl rfl) (qs134.1.R rfl) (qs134.1.F rfl) (qs134.1.F rfl) (qs134.1.F rfl) (qs134.1.F rfl) (qs134.1.F rfl) (qs134.1.F rfl) (qs134.1.F rfl) (qs134.1.F rfl) (qs134.1.F rfl) (qs134.1.F rfl) (fun i => qs134.1.A (f := 26) (by decide) rfl) (qs134.1.FG g0 rfl) (qs134.1.FG g0 rfl) (qs134.1.FG g0 rfl) (qs134.1.FG g0 rfl) (qs134.1.FG g0 rfl) (fz_keep qs134.1 rfl) (RG.keep (c0 := 0) qs134.1 rfl rfl rfl rfl rfl rfl rfl rfl rfl rfl rfl rfl rfl rfl rfl rfl rfl rfl) qs134.2
                      refine z_aload_n hC (pc := 137) 2 dX14_readArgs_137 rfl rfl ?_
                      obtain ⟨p54, h⟩ := h
                      refine y_callVi hC (pc := 138) (As := []) (kX14_here l G κ s134  Ws134  p54) dmX14_here zf14 rOb_0 dX14_readArgs_138 zw3099 rfl rfl (Nat.le_of_ble_eq_true rfl) (Nat.le_of_ble_eq_true rfl) (by omega) (by omega) (Nat.le_of_ble_eq_true rfl) (kk := fun v138 s138 hv138 Ws138 qs138 => ?_)
                      obtain ⟨es138, qs138⟩ := qs138
                      have es138 := es138.symm
                      subst es138
                      have h := h v138 hv138 qs138
                      refine z_bipush hC (pc := 141) (v := Int32.ofInt 44) dX14_readArgs_141 (by decide) ?_
                      obtain ⟨hT, hF⟩ := h
                      refine y_icmp_ne hC (pc := 143) 150 hv138 (r_lit rfl) dX14_readArgs_143 (by decide) (fun c => ?_) (fun c => ?_)
                      · have h := hT c
                        refine z_iconst hC (pc := 150) (v := Int32.ofInt 0) dX14_readArgs_150 (by decide) ?_
                        refine z_istore hC (pc := 151) (lv' := [(4, iv 0), (3, iv v73), (5, iv v73), (0, .ref (κ 0)), (1, iv x1), (2, iv y55_2)]) dX14_readArgs_151 (by decide) rfl ?_
                        refine z_iload hC (pc := 153) 0 dX14_readArgs_153 rfl ?_
                        refine y_if_eq hC (pc := 155) 189 (r_lit rfl) dX14_readArgs_155 (by decide) (fun _ => ?_) (fun c => absurd c (by decide))
                        refine z_goto hC (pc := 189) 55 dX14_readArgs_189 (by decide) ?_
                        refine z_lvs [3, 4, 5, 1, 0] rfl ?_
                        obtain ⟨hI, hm⟩ := h
                        exact ih55 s134 y55_2 v73 0 Ws134 hy55_2 hv73 (r_lit rfl) (rKeep.tr (rKeep.tr (rKeep.tr (rKeep.tr rKeep.rf kJ rfl rfl rfl rfl rfl) qs73.1 rfl rfl rfl rfl rfl) (rKeep.sAk (f := 2) g0 (by decide)) rfl rfl rfl rfl rfl) qs134.1 rfl rfl rfl rfl rfl) hI (by omega)
                      · have h := hF c
                        refine z_iconst hC (pc := 146) (v := Int32.ofInt 1) dX14_readArgs_146 (by decide) ?_
                        refine z_goto hC (pc := 147) 151 dX14_readArgs_147 (by decide) ?_
                        refine z_istore hC (pc := 151) (lv' := [(4, iv 1), (3, iv v73), (5, iv v73), (0, .ref (κ 0)), (1, iv x1), (2, iv y55_2)]) dX14_readArgs_151 (by decide) rfl ?_
                        refine z_iload hC (pc := 153) 0 dX14_readArgs_153 rfl ?_
                        refine y_if_eq hC (pc := 155) 189 (r_lit rfl) dX14_readArgs_155 (by decide) (fun c => absurd c (by decide)) (fun _ => ?_)
                        refine z_aload_n hC (pc := 158) 3 dX14_readArgs_158 rfl rfl ?_
                        refine z_dup hC (pc := 159) dX14_readArgs_159 rfl ?_
                        refine y_get hC (pc := 160) zf14 rOb_0 29 (v := iv (rF s134 0 29)) dX14_readArgs_160 zw2496 (rv_i (Or.inl rfl) rfl) (kk := ?_)
                        have h := h (Ws134.f _ _)
                        refine z_iconst hC (pc := 163) (v := Int32.ofInt 1) dX14_readArgs_163 (by decide) ?_
                        refine y_iadd hC (pc := 164) (v := ((rF s134 0 29) + 1)) dX14_readArgs_164 rfl ?_
                        obtain ⟨r55, h⟩ := h
                        refine y_putI hC (pc := 165) zf14 rOb_0 29 (x := ((rF s134 0 29) + 1)) dX14_readArgs_165 zw2496 (Or.inl rfl) rfl rfl (kk := ?_)
                        have W56 := Ws134.sF (q := 0) (f := 29) (x := ((rF s134 0 29) + 1)) r55
                        refine z_aload_n hC (pc := 168) 3 dX14_readArgs_168 rfl rfl ?_
                        obtain ⟨p57, h⟩ := h
                        refine y_callVv hC (pc := 169) (As := []) (kX14_blanks l G κ (sF s134 0 29 ((rF s134 0 29) + 1))  W56  p57) dmX14_blanks zf14 rOb_0 dX14_readArgs_169 zw3119 rfl rfl (Nat.le_of_ble_eq_true rfl) (Nat.le_of_ble_eq_true rfl) (by omega) (by omega) (Nat.le_of_ble_eq_true rfl) (kk := fun s169 Ws169 qs169 => ?_)
                        have h := h s169 Ws169 (rNMp.keep qs169.1 rfl rfl rfl rfl rfl) (TPRp.keep qs169.1 rfl rfl rfl) (WNp.keep qs169.1 rfl rfl rfl rfl rfl) (PNp.keep qs169.1 rfl rfl rfl rfl rfl) (CCp.keep qs169.1 rfl rfl rfl rfl rfl rfl rfl) (qs169.1.R rfl) (qs169.1.F rfl) (qs169.1.F rfl) (qs169.1.F rfl) (qs169.1.F rfl) (qs169.1.F rfl) (qs169.1.F rfl) (qs169.1.F rfl) (qs169.1.F rfl) (qs169.1.F rfl) (qs169.1.F rfl) (fun i => qs169.1.A (f := 26) (by decide) rfl) (qs169.1.FG g0 rfl) (qs169.1.FG g0 rfl) (qs169.1.FG g0 rfl) (qs169.1.FG g0 rfl) (qs169.1.FG g0 rfl) (fz_keep qs169.1 rfl) (RG.keep (c0 := 0) qs169.1 rfl rfl rfl rfl rfl rfl rfl rfl rfl rfl rfl rfl rfl rfl rfl rfl rfl rfl) qs169.2
                        refine z_iload_n hC (pc := 172) 5 dX14_readArgs_172 rfl rfl ?_
                        obtain ⟨hT, hF⟩ := h
                        refine y_if_eq hC (pc := 173) 189 hy55_2 dX14_readArgs_173 (by decide) (fun c => ?_) (fun c => ?_)
                        · have h := hT c
                          refine z_goto hC (pc := 189) 55 dX14_readArgs_189 (by decide) ?_
                          refine z_lvs [3, 4, 5, 1, 0] rfl ?_
                          obtain ⟨hI, hm⟩ := h
                          exact ih55 s169 y55_2 v73 1 Ws169 hy55_2 hv73 (r_lit rfl) (rKeep.tr (rKeep.tr (rKeep.tr (rKeep.tr (rKeep.tr (rKeep.tr rKeep.rf kJ rfl rfl rfl rfl rfl) qs73.1 rfl rfl rfl rfl rfl) (rKeep.sAk (f := 2) g0 (by decide)) rfl rfl rfl rfl rfl) qs134.1 rfl rfl rfl rfl rfl) (rKeep.sF0 (f := 29)) rfl rfl rfl rfl rfl) qs169.1 rfl rfl rfl rfl rfl) hI (by omega)
                        · have h := hF c
                          refine z_aload_n hC (pc := 176) 3 dX14_readArgs_176 rfl rfl ?_
                          obtain ⟨p58, h⟩ := h
                          refine y_callVi hC (pc := 177) (As := []) (kX14_isDots l G κ s169  Ws169  p58) dmX14_isDots zf14 rOb_0 dX14_readArgs_177 zw3250 rfl rfl (Nat.le_of_ble_eq_true rfl) (Nat.le_of_ble_eq_true rfl) (by omega) (by omega) (Nat.le_of_ble_eq_true rfl) (kk := fun v177 s177 hv177 Ws177 qs177 => ?_)
                          obtain ⟨es177, qs177⟩ := qs177
                          have es177 := es177.symm
                          subst es177
                          have h := h v177 hv177 qs177
                          obtain ⟨hT, hF⟩ := h
                          refine y_if_eq hC (pc := 180) 189 hv177 dX14_readArgs_180 (by decide) (fun c => ?_) (fun c => ?_)
                          · have h := hT c
                            refine z_goto hC (pc := 189) 55 dX14_readArgs_189 (by decide) ?_
                            refine z_lvs [3, 4, 5, 1, 0] rfl ?_
                            obtain ⟨hI, hm⟩ := h
                            exact ih55 s169 y55_2 v73 1 Ws169 hy55_2 hv73 (r_lit rfl) (rKeep.tr (rKeep.tr (rKeep.tr (rKeep.tr (rKeep.tr (rKeep.tr rKeep.rf kJ rfl rfl rfl rfl rfl) qs73.1 rfl rfl rfl rfl rfl) (rKeep.sAk (f := 2) g0 (by decide)) rfl rfl rfl rfl rfl) qs134.1 rfl rfl rfl rfl rfl) (rKeep.sF0 (f := 29)) rfl rfl rfl rfl rfl) qs169.1 rfl rfl rfl rfl rfl) hI (by omega)
                          · have h := hF c
                            refine z_aload_n hC (pc := 183) 3 dX14_readArgs_183 rfl rfl ?_
                            refine z_iload_n hC (pc := 184) 4 dX14_readArgs_184 rfl rfl ?_
                            obtain ⟨p59, h⟩ := h
                            refine y_callVv hC (pc := 185) (As := [iv x1]) (kX14_dots_t l G κ s169 x1 gg Ws169 hx1 p59) dmX14_dots zf14 rOb_0 dX14_readArgs_185 zw3254 rfl rfl (Nat.le_of_ble_eq_true rfl) (Nat.le_of_ble_eq_true rfl) (by omega) (by omega) (Nat.le_of_ble_eq_true rfl) (kk := fun s185 Ws185 qs185 => ?_)
                            have h := h s185 Ws185 (rNMp.keep qs185.1 rfl rfl rfl rfl rfl) (TPRp.keep qs185.1 rfl rfl rfl) (WNp.keep qs185.1 rfl rfl rfl rfl rfl) (PNp.keep qs185.1 rfl rfl rfl rfl rfl) (CCp.keep qs185.1 rfl rfl rfl rfl rfl rfl rfl) (qs185.1.R rfl) (qs185.1.F rfl) (qs185.1.F rfl) (qs185.1.F rfl) (qs185.1.F rfl) (qs185.1.F rfl) (qs185.1.F rfl) (qs185.1.F rfl) (qs185.1.F rfl) (qs185.1.F rfl) (fun i => qs185.1.A (f := 26) (by decide) rfl) (qs185.1.FG g0 rfl) (qs185.1.FG g0 rfl) (qs185.1.FG g0 rfl) (qs185.1.FG g0 rfl) (qs185.1.FG g0 rfl) qs185.2
                            exact y_retv hR dX14_readArgs_188 Ws185 (Nat.le_of_ble_eq_true rfl) (Nat.le_of_ble_eq_true rfl) ⟨(rKeep.tr (rKeep.tr (rKeep.tr (rKeep.tr (rKeep.tr (rKeep.tr (rKeep.tr rKeep.rf kJ rfl rfl rfl rfl rfl) qs73.1 rfl rfl rfl rfl rfl) (rKeep.sAk (f := 2) g0 (by decide)) rfl rfl rfl rfl rfl) qs134.1 rfl rfl rfl rfl rfl) (rKeep.sF0 (f := 29)) rfl rfl rfl rfl rfl) qs169.1 rfl rfl rfl rfl rfl) qs185.1 rfl rfl rfl rfl rfl), h⟩
                  · have h := hF c
                    exact y_retv hR dX14_readArgs_100 Ws73 (Nat.le_of_ble_eq_true rfl) (Nat.le_of_ble_eq_true rfl) ⟨(rKeep.tr (rKeep.tr rKeep.rf kJ rfl rfl rfl rfl rfl) qs73.1 rfl rfl rfl rfl rfl), h⟩
        refine z_lvs [3, 4, 2, 1, 0] rfl ?_
        exact j55 _ s1 v46 0 1 Ws1 hv46 (r_lit rfl) (r_lit rfl) (rKeep.tr rKeep.rf qs1.1 rfl rfl rfl rfl rfl) h (Nat.le_refl _)
      · have h := hF c
        refine z_aload_n hC (pc := 39) 0 dX14_readArgs_39 rfl rfl ?_
        refine z_iload_n hC (pc := 40) 1 dX14_readArgs_40 rfl rfl ?_
        obtain ⟨p60, h⟩ := h
        refine y_callVv hC (pc := 41) (As := [iv x1]) (kX14_dots_t l G κ s1 x1 gg Ws1 hx1 p60) dmX14_dots zf14 rOb_0 dX14_readArgs_41 zw3254 rfl rfl (Nat.le_of_ble_eq_true rfl) (Nat.le_of_ble_eq_true rfl) (by omega) (by omega) (Nat.le_of_ble_eq_true rfl) (kk := fun s41 Ws41 qs41 => ?_)
        have h := h s41 Ws41 (rNMp.keep qs41.1 rfl rfl rfl rfl rfl) (TPRp.keep qs41.1 rfl rfl rfl) (WNp.keep qs41.1 rfl rfl rfl rfl rfl) (PNp.keep qs41.1 rfl rfl rfl rfl rfl) (CCp.keep qs41.1 rfl rfl rfl rfl rfl rfl rfl) (qs41.1.R rfl) (qs41.1.F rfl) (qs41.1.F rfl) (qs41.1.F rfl) (qs41.1.F rfl) (qs41.1.F rfl) (qs41.1.F rfl) (qs41.1.F rfl) (qs41.1.F rfl) (qs41.1.F rfl) (fun i => qs41.1.A (f := 26) (by decide) rfl) (qs41.1.FG g0 rfl) (qs41.1.FG g0 rfl) (qs41.1.FG g0 rfl) (qs41.1.FG g0 rfl) (qs41.1.FG g0 rfl) qs41.2
        exact y_retv hR dX14_readArgs_44 Ws41 (Nat.le_of_ble_eq_true rfl) (Nat.le_of_ble_eq_true rfl) ⟨(rKeep.tr (rKeep.tr rKeep.rf qs1.1 rfl rfl rfl rfl rfl) qs41.1 rfl rfl rfl rfl rfl), h⟩
    · have h := hF c
      refine z_aload_n hC (pc := 21) 0 dX14_readArgs_21 rfl rfl ?_
      refine z_dup hC (pc := 22) dX14_readArgs_22 rfl ?_
      refine y_get hC (pc := 23) zf14 rOb_0 29 (v := iv (rF s1 0 29)) dX14_readArgs_23 zw2496 (rv_i (Or.inl rfl) rfl) (kk := ?_)
      have h := h (Ws1.f _ _)
      refine z_iconst hC (pc := 26) (v := Int32.ofInt 1) dX14_readArgs_26 (by decide) ?_
      refine y_iadd hC (pc := 27) (v := ((rF s1 0 29) + 1)) dX14_readArgs_27 rfl ?_
      obtain ⟨r61, h⟩ := h
      refine y_putI hC (pc := 28) zf14 rOb_0 29 (x := ((rF s1 0 29) + 1)) dX14_readArgs_28 zw2496 (Or.inl rfl) rfl rfl (kk := ?_)
      have W62 := Ws1.sF (q := 0) (f := 29) (x := ((rF s1 0 29) + 1)) r61
      exact y_retv hR dX14_readArgs_31 W62 (Nat.le_of_ble_eq_true rfl) (Nat.le_of_ble_eq_true rfl) ⟨(rKeep.tr (rKeep.tr rKeep.rf qs1.1 rfl rfl rfl rfl rfl) (rKeep.sF0 (f := 29)) rfl rfl rfl rfl rfl), h⟩
  · have h := hF c
    exact y_retv hR dX14_readArgs_11 Ws1 (Nat.le_of_ble_eq_true rfl) (Nat.le_of_ble_eq_true rfl) ⟨(rKeep.tr rKeep.rf qs1.1 rfl rfl rfl rfl rfl), h⟩
theorem kX14_readArgs (l : Launch) (G : zG) (κ : Nat → Nat) (n : Nat) (ih : Q_rd l G κ n) (σ : rS) (x1 : Int) (gg : Nat) (g : Nat → Int → Int) (K : Nat) (hwf : rWF σ) (hx1 : rng x1) (hp : pre_X14_readArgs σ x1 gg g K) (hr : rk_X14_readArgs σ x1 gg g K ≤ n + 1) : rMv l G κ yX14_readArgs cX14_readArgs 6 (n + 1 + 100) ((n + 1) * 40 + 3600) [.ref (κ 0), iv x1] σ (fun s => rKeep 0x6c0a3001c00 0x4100001280 0x13c00000000 0x3ee0000d7f 0 σ s ∧ post_X14_readArgs σ x1 gg g K s) := wX14_readArgs l G κ n ih σ x1 gg g K hwf hx1 (post_X14_readArgs σ x1 gg g K) (vX14_readArgs n σ x1 gg g K hwf hx1 hp hr) (vX14_readArgs_55 n σ x1 gg g K hwf hx1 hp hr) (vX14_readArgs_55m n σ x1 gg g K hwf hx1 hp hr)
