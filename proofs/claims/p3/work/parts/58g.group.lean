theorem wX14_readText (l : Launch) (G : zG) (κ : Nat → Nat) (n : Nat) (ih : Q_rd l G κ n) (σ : rS) (x1 : Int) (gg : Nat) (g : Nat → Int → Int) (hwf : rWF σ) (hx1 : rng x1) (Q : Int → rS → Prop) (h : VC_X14_readText n σ x1 gg g Q) (h_13 : VC_X14_readText_13 n σ x1 gg g Q) (h_13m : VC_X14_readText_13m n σ x1 gg g) : rMi l G κ yX14_readText cX14_readText 6 .int (n + 1 + 100) ((n + 1) * 40 + 3600) [.ref (κ 0), iv x1] σ (fun x s => rKeep 0x6c0a3001c00 0x4100001280 0x13c00000000 0x3ee0000d7f 0 σ s ∧ Q x s) := by
  refine zMi.intro (by decide +kernel) (Nat.le_of_ble_eq_true rfl) (fun X hC hR => ?_)
  obtain ⟨g0, h⟩ := h
  refine z_aload_n hC (pc := 0) 0 dX14_readText_0 rfl rfl ?_
  refine y_get hC (pc := 1) zf14 rOb_0 38 (v := iv (rF σ 0 38)) dX14_readText_1 zw2505 (rv_i (Or.inl rfl) rfl) (kk := ?_)
  have h := h (hwf.f _ _)
  refine z_istore_n hC (pc := 4) (lv' := [(2, iv (rF σ 0 38)), (0, .ref (κ 0)), (1, iv x1)]) dX14_readText_4 rfl (by decide) rfl ?_
  refine z_aload_n hC (pc := 5) 1 dX14_readText_5 rfl rfl ?_
  refine y_get hC (pc := 6) zf14 rOb_0 39 (v := iv (rF σ 0 39)) dX14_readText_6 zw2506 (rv_i (Or.inl rfl) rfl) (kk := ?_)
  have h := h (hwf.f _ _)
  refine z_istore_n hC (pc := 9) (lv' := [(3, iv (rF σ 0 39)), (2, iv (rF σ 0 38)), (0, .ref (κ 0)), (1, iv x1)]) dX14_readText_9 rfl (by decide) rfl ?_
  refine z_iconst hC (pc := 10) (v := Int32.ofInt 1) dX14_readText_10 (by decide) ?_
  refine z_istore hC (pc := 11) (lv' := [(4, iv 1), (3, iv (rF σ 0 39)), (2, iv (rF σ 0 38)), (0, .ref (κ 0)), (1, iv x1)]) dX14_readText_11 (by decide) rfl ?_
  have j13 : ∀ (d13 : Nat), ∀ (s13 : rS) (y13_2 : Int) (y13_3 : Int) (y13_4 : Int), rWF s13 → rng y13_2 → rng y13_3 → rng y13_4 → rKeep 0x6c0a3001c00 0x4100001280 0x13c00000000 0x3ee0000d7f 0 σ s13 → inv_X14_readText_13 σ x1 gg g s13 y13_2 y13_3 y13_4 → (mu_X14_readText_13 σ x1 gg g s13 y13_2 y13_3 y13_4) ≤ d13 → zS X G 6 (rW G κ s13) [(0, .ref (κ 0)), (1, iv x1), (2, iv y13_2), (3, iv y13_3), (4, iv y13_4)] 0 0 13 [] := by
    intro d13
    induction d13 with
    | zero =>
      intro s13 y13_2 y13_3 y13_4 Ws13 hy13_2 hy13_3 hy13_4 kJ hI hmu
      exact absurd hmu (by have := h_13m  s13 y13_2 y13_3 y13_4 Ws13 hy13_2 hy13_3 hy13_4 (TPRp.keep kJ rfl rfl rfl) (CCp.keep kJ rfl rfl rfl rfl rfl rfl rfl) (kJ.R rfl) (kJ.F rfl) (kJ.F rfl) (kJ.F rfl) (kJ.F rfl) (kJ.F rfl) (kJ.F rfl) (fun i => kJ.A (f := 26) (by decide) rfl) hI; omega)
    | succ d13 ih13 =>
      intro s13 y13_2 y13_3 y13_4 Ws13 hy13_2 hy13_3 hy13_4 kJ hI hmu13
      have h := h_13  s13 y13_2 y13_3 y13_4 Ws13 hy13_2 hy13_3 hy13_4 (TPRp.keep kJ rfl rfl rfl) (CCp.keep kJ rfl rfl rfl rfl rfl rfl rfl) (kJ.R rfl) (kJ.F rfl) (kJ.F rfl) (kJ.F rfl) (kJ.F rfl) (kJ.F rfl) (kJ.F rfl) (fun i => kJ.A (f := 26) (by decide) rfl) hI
      refine z_iload hC (pc := 13) 4 dX14_readText_13 rfl ?_
      obtain ⟨hT, hF⟩ := h
      refine y_if_eq hC (pc := 15) 253 hy13_4 dX14_readText_15 (by decide) (fun c => ?_) (fun c => ?_)
      · have h := hT c
        refine z_aload_n hC (pc := 253) 0 dX14_readText_253 rfl rfl ?_
        refine y_get hC (pc := 254) zf14 rOb_0 10 (v := iv (rF s13 0 10)) dX14_readText_254 zw2478 (rv_i (Or.inl rfl) rfl) (kk := ?_)
        have h := h (Ws13.f _ _)
        obtain ⟨hT, hF⟩ := h
        refine y_if_eq hC (pc := 257) 262 (Ws13.f _ _) dX14_readText_257 (by decide) (fun c => ?_) (fun c => ?_)
        · have h := hT c
          refine z_aload_n hC (pc := 262) 0 dX14_readText_262 rfl rfl ?_
          refine z_iload_n hC (pc := 263) 2 dX14_readText_263 rfl rfl ?_
          obtain ⟨g10, h⟩ := h
          obtain ⟨nn11, h⟩ := h
          obtain ⟨p12, h⟩ := h
          refine y_callVv hC (pc := 264) (As := [iv y13_2]) (kX14_lines_w l G κ s13 y13_2 gg g10 nn11 Ws13 hy13_2 p12) dmX14_lines zf14 rOb_0 dX14_readText_264 zw3287 rfl rfl (Nat.le_of_ble_eq_true rfl) (Nat.le_of_ble_eq_true rfl) (by omega) (by omega) (Nat.le_of_ble_eq_true rfl) (kk := fun s264 Ws264 qs264 => ?_)
          have h := h s264 Ws264 (TPRp.keep qs264.1 rfl rfl rfl) (PNp.keep qs264.1 rfl rfl rfl rfl rfl) (CCp.keep qs264.1 rfl rfl rfl rfl rfl rfl rfl) (qs264.1.R rfl) (qs264.1.F rfl) (qs264.1.F rfl) (qs264.1.F rfl) (qs264.1.F rfl) (qs264.1.F rfl) (qs264.1.F rfl) (qs264.1.F rfl) (qs264.1.F rfl) (qs264.1.F rfl) (qs264.1.F rfl) (qs264.1.F rfl) (qs264.1.F rfl) (fun i => qs264.1.A (f := 26) (by decide) rfl) (fun i => qs264.1.A (f := 34) (by decide) rfl) (fun i => qs264.1.A (f := 35) (by decide) rfl) (fun i => qs264.1.A (f := 36) (by decide) rfl) (fun i => qs264.1.A (f := 40) (by decide) rfl) (qs264.1.FG g0 rfl) (qs264.1.FG g0 rfl) (qs264.1.FG g0 rfl) (qs264.1.FG g0 rfl) (fun i => qs264.1.AG (f := 10) g0 (by decide) rfl) (fun i => qs264.1.AG (f := 11) g0 (by decide) rfl) (fun i => qs264.1.AG (f := 31) g0 (by decide) rfl) (fun i => qs264.1.AG (f := 33) g0 (by decide) rfl) (fun i => qs264.1.AG (f := 34) g0 (by decide) rfl) (fun i => qs264.1.AG (f := 35) g0 (by decide) rfl) (fz_keep qs264.1 rfl) qs264.2
          refine z_aload_n hC (pc := 267) 0 dX14_readText_267 rfl rfl ?_
          refine z_iload_n hC (pc := 268) 2 dX14_readText_268 rfl rfl ?_
          refine y_putI hC (pc := 269) zf14 rOb_0 42 (x := y13_2) dX14_readText_269 zw2509 (Or.inl rfl) rfl rfl (kk := ?_)
          have W13 := Ws264.sF (q := 0) (f := 42) (x := y13_2) hy13_2
          refine z_aload_n hC (pc := 272) 0 dX14_readText_272 rfl rfl ?_
          obtain ⟨B14, h⟩ := h
          obtain ⟨p15, h⟩ := h
          obtain ⟨p16, h⟩ := h
          refine y_callVi hC (pc := 273) (As := []) (kkX14_build l G κ (sF s264 0 42 y13_2) gg B14 W13  p15 p16) dmX14_build zf14 rOb_0 dX14_readText_273 zw3303 rfl rfl (Nat.le_of_ble_eq_true rfl) (Nat.le_of_ble_eq_true rfl) (by omega) (by omega) (Nat.le_of_ble_eq_true rfl) (kk := fun v273 s273 hv273 Ws273 qs273 => ?_)
          have h := h v273 s273 hv273 Ws273 (rNMp.keep qs273.1 rfl rfl rfl rfl rfl) (TPRp.keep qs273.1 rfl rfl rfl) (WNp.keep qs273.1 rfl rfl rfl rfl rfl) (CCp.keep qs273.1 rfl rfl rfl rfl rfl rfl rfl) (qs273.1.R rfl) (qs273.1.F rfl) (qs273.1.F rfl) (qs273.1.F rfl) (qs273.1.F rfl) (qs273.1.F rfl) (qs273.1.F rfl) (qs273.1.F rfl) (qs273.1.F rfl) (qs273.1.F rfl) (qs273.1.F rfl) (qs273.1.F rfl) (fun i => qs273.1.A (f := 26) (by decide) rfl) (fun i => qs273.1.A (f := 34) (by decide) rfl) (fun i => qs273.1.A (f := 35) (by decide) rfl) (fun i => qs273.1.A (f := 36) (by decide) rfl) (fun i => qs273.1.A (f := 37) (by decide) rfl) (fun i => qs273.1.A (f := 40) (by decide) rfl) (qs273.1.FG g0 rfl) (qs273.1.FG g0 rfl) (qs273.1.FG g0 rfl) (qs273.1.FG g0 rfl) (fun i => qs273.1.AG (f := 10) g0 (by decide) rfl) (fun i => qs273.1.AG (f := 11) g0 (by decide) rfl) (fun i => qs273.1.AG (f := 31) g0 (by decide) rfl) (fun i => qs273.1.AG (f := 33) g0 (by decide) rfl) (fun i => qs273.1.AG (f := 34) g0 (by decide) rfl) (fun i => qs273.1.AG (f := 35) g0 (by decide) rfl) (fz_keep qs273.1 rfl) qs273.2
          refine z_istore hC (pc := 276) (lv' := [(5, iv v273), (0, .ref (κ 0)), (1, iv x1), (2, iv y13_2), (3, iv y13_3), (4, iv y13_4)]) dX14_readText_276 (by decide) rfl ?_
          refine z_aload_n hC (pc := 278) 1 dX14_readText_278 rfl rfl ?_
          refine z_iload_n hC (pc := 279) 3 dX14_readText_279 rfl rfl ?_
          refine y_putI hC (pc := 280) zf14 rOb_0 38 (x := y13_2) dX14_readText_280 zw2505 (Or.inl rfl) rfl rfl (kk := ?_)
          have W17 := Ws273.sF (q := 0) (f := 38) (x := y13_2) hy13_2
          refine z_iload hC (pc := 283) 0 dX14_readText_283 rfl ?_
          exact y_reti hR dX14_readText_285 rfl hv273 W17 (Nat.le_of_ble_eq_true rfl) (Nat.le_of_ble_eq_true rfl) ⟨(rKeep.tr (rKeep.tr (rKeep.tr (rKeep.tr (rKeep.tr rKeep.rf kJ rfl rfl rfl rfl rfl) qs264.1 rfl rfl rfl rfl rfl) (rKeep.sF0 (f := 42)) rfl rfl rfl rfl rfl) qs273.1 rfl rfl rfl rfl rfl) (rKeep.sF0 (f := 38)) rfl rfl rfl rfl rfl), h⟩
        · have h := hF c
          refine z_iconst hC (pc := 260) (v := Int32.ofInt 0) dX14_readText_260 (by decide) ?_
          exact y_reti hR dX14_readText_261 rfl (r_lit rfl) Ws13 (Nat.le_of_ble_eq_true rfl) (Nat.le_of_ble_eq_true rfl) ⟨(rKeep.tr rKeep.rf kJ rfl rfl rfl rfl rfl), h⟩
      · have h := hF c
        refine z_aload_n hC (pc := 18) 0 dX14_readText_18 rfl rfl ?_
        refine y_get hC (pc := 19) zf14 rOb_0 10 (v := iv (rF s13 0 10)) dX14_readText_19 zw2478 (rv_i (Or.inl rfl) rfl) (kk := ?_)
        have h := h (Ws13.f _ _)
        obtain ⟨hT, hF⟩ := h
        refine y_if_ne hC (pc := 22) 253 (Ws13.f _ _) dX14_readText_22 (by decide) (fun c => ?_) (fun c => ?_)
        · have h := hT c
          refine z_aload_n hC (pc := 253) 0 dX14_readText_253 rfl rfl ?_
          refine y_get hC (pc := 254) zf14 rOb_0 10 (v := iv (rF s13 0 10)) dX14_readText_254 zw2478 (rv_i (Or.inl rfl) rfl) (kk := ?_)
          obtain ⟨hT, hF⟩ := h
          refine y_if_eq hC (pc := 257) 262 (Ws13.f _ _) dX14_readText_257 (by decide) (fun c => ?_) (fun c => ?_)
          · have h := hT c
            refine z_aload_n hC (pc := 262) 0 dX14_readText_262 rfl rfl ?_
            refine z_iload_n hC (pc := 263) 2 dX14_readText_263 rfl rfl ?_
            obtain ⟨g18, h⟩ := h
            obtain ⟨nn19, h⟩ := h
            obtain ⟨p20, h⟩ := h
            refine y_callVv hC (pc := 264) (As := [iv y13_2]) (kX14_lines_w l G κ s13 y13_2 gg g18 nn19 Ws13 hy13_2 p20) dmX14_lines zf14 rOb_0 dX14_readText_264 zw3287 rfl rfl (Nat.le_of_ble_eq_true rfl) (Nat.le_of_ble_eq_true rfl) (by omega) (by omega) (Nat.le_of_ble_eq_true rfl) (kk := fun s264 Ws264 qs264 => ?_)
            have h := h s264 Ws264 (TPRp.keep qs264.1 rfl rfl rfl) (PNp.keep qs264.1 rfl rfl rfl rfl rfl) (CCp.keep qs264.1 rfl rfl rfl rfl rfl rfl rfl) (qs264.1.R rfl) (qs264.1.F rfl) (qs264.1.F rfl) (qs264.1.F rfl) (qs264.1.F rfl) (qs264.1.F rfl) (qs264.1.F rfl) (qs264.1.F rfl) (qs264.1.F rfl) (qs264.1.F rfl) (qs264.1.F rfl) (qs264.1.F rfl) (qs264.1.F rfl) (fun i => qs264.1.A (f := 26) (by decide) rfl) (fun i => qs264.1.A (f := 34) (by decide) rfl) (fun i => qs264.1.A (f := 35) (by decide) rfl) (fun i => qs264.1.A (f := 36) (by decide) rfl) (fun i => qs264.1.A (f := 40) (by decide) rfl) (qs264.1.FG g0 rfl) (qs264.1.FG g0 rfl) (qs264.1.FG g0 rfl) (qs264.1.FG g0 rfl) (fun i => qs264.1.AG (f := 10) g0 (by decide) rfl) (fun i => qs264.1.AG (f := 11) g0 (by decide) rfl) (fun i => qs264.1.AG (f := 31) g0 (by decide) rfl) (fun i => qs264.1.AG (f := 33) g0 (by decide) rfl) (fun i => qs264.1.AG (f := 34) g0 (by decide) rfl) (fun i => qs264.1.AG (f := 35) g0 (by decide) rfl) (fz_keep qs264.1 rfl) qs264.2
            refine z_aload_n hC (pc := 267) 0 dX14_readText_267 rfl rfl ?_
            refine z_iload_n hC (pc := 268) 2 dX14_readText_268 rfl rfl ?_
            refine y_putI hC (pc := 269) zf14 rOb_0 42 (x := y13_2) dX14_readText_269 zw2509 (Or.inl rfl) rfl rfl (kk := ?_)
            have W21 := Ws264.sF (q := 0) (f := 42) (x := y13_2) hy13_2
            refine z_aload_n hC (pc := 272) 0 dX14_readText_272 rfl rfl ?_
            obtain ⟨B22, h⟩ := h
            obtain ⟨p23, h⟩ := h
            obtain ⟨p24, h⟩ := h
            refine y_callVi hC (pc := 273) (As := []) (kkX14_build l G κ (sF s264 0 42 y13_2) gg B22 W21  p23 p24) dmX14_build zf14 rOb_0 dX14_readText_273 zw3303 rfl rfl (Nat.le_of_ble_eq_true rfl) (Nat.le_of_ble_eq_true rfl) (by omega) (by omega) (Nat.le_of_ble_eq_true rfl) (kk := fun v273 s273 hv273 Ws273 qs273 => ?_)
            have h := h v273 s273 hv273 Ws273 (rNMp.keep qs273.1 rfl rfl rfl rfl rfl) (TPRp.keep qs273.1 rfl rfl rfl) (WNp.keep qs273.1 rfl rfl rfl rfl rfl) (CCp.keep qs273.1 rfl rfl rfl rfl rfl rfl rfl) (qs273.1.R rfl) (qs273.1.F rfl) (qs273.1.F rfl) (qs273.1.F rfl) (qs273.1.F rfl) (qs273.1.F rfl) (qs273.1.F rfl) (qs273.1.F rfl) (qs273.1.F rfl) (qs273.1.F rfl) (qs273.1.F rfl) (qs273.1.F rfl) (fun i => qs273.1.A (f := 26) (by decide) rfl) (fun i => qs273.1.A (f := 34) (by decide) rfl) (fun i => qs273.1.A (f := 35) (by decide) rfl) (fun i => qs273.1.A (f := 36) (by decide) rfl) (fun i => qs273.1.A (f := 37) (by decide) rfl) (fun i => qs273.1.A (f := 40) (by decide) rfl) (qs273.1.FG g0 rfl) (qs273.1.FG g0 rfl) (qs273.1.FG g0 rfl) (qs273.1.FG g0 rfl) (fun i => qs273.1.AG (f := 10) g0 (by decide) rfl) (fun i => qs273.1.AG (f := 11) g0 (by decide) rfl) (fun i => qs273.1.AG (f := 31) g0 (by decide) rfl) (fun i => qs273.1.AG (f := 33) g0 (by decide) rfl) (fun i => qs273.1.AG (f := 34) g0 (by decide) rfl) (fun i => qs273.1.AG (f := 35) g0 (by decide) rfl) (fz_keep qs273.1 rfl) qs273.2
            refine z_istore hC (pc := 276) (lv' := [(5, iv v273), (0, .ref (κ 0)), (1, iv x1), (2, iv y13_2), (3, iv y13_3), (4, iv y13_4)]) dX14_readText_276 (by decide) rfl ?_
            refine z_aload_n hC (pc := 278) 1 dX14_readText_278 rfl rfl ?_
            refine z_iload_n hC (pc := 279) 3 dX14_readText_279 rfl rfl ?_
            refine y_putI hC (pc := 280) zf14 rOb_0 38 (x := y13_2) dX14_readText_280 zw2505 (Or.inl rfl) rfl rfl (kk := ?_)
            have W25 := Ws273.sF (q := 0) (f := 38) (x := y13_2) hy13_2
            refine z_iload hC (pc := 283) 0 dX14_readText_283 rfl ?_
            exact y_reti hR dX14_readText_285 rfl hv273 W25 (Nat.le_of_ble_eq_true rfl) (Nat.le_of_ble_eq_true rfl) ⟨(rKeep.tr (rKeep.tr (rKeep.tr (rKeep.tr (rKeep.tr rKeep.rf kJ rfl rfl rfl rfl rfl) qs264.1 rfl rfl rfl rfl rfl) (rKeep.sF0 (f := 42)) rfl rfl rfl rfl rfl) qs273.1 rfl rfl rfl rfl rfl) (rKeep.sF0 (f := 38)) rfl rfl rfl rfl rfl), h⟩
          · have h := hF c
            refine z_iconst hC (pc := 260) (v := Int32.ofInt 0) dX14_readText_260 (by decide) ?_
            exact y_reti hR dX14_readText_261 rfl (r_lit rfl) Ws13 (Nat.le_of_ble_eq_true rfl) (Nat.le_of_ble_eq_true rfl) ⟨(rKeep.tr rKeep.rf kJ rfl rfl rfl rfl rfl), h⟩
        · have h := hF c
          refine z_aload_n hC (pc := 25) 0 dX14_readText_25 rfl rfl ?_
          obtain ⟨p26, h⟩ := h
          refine y_callVi hC (pc := 26) (As := []) (kX14_here l G κ s13  Ws13  p26) dmX14_here zf14 rOb_0 dX14_readText_26 zw3099 rfl rfl (Nat.le_of_ble_eq_true rfl) (Nat.le_of_ble_eq_true rfl) (by omega) (by omega) (Nat.le_of_ble_eq_true rfl) (kk := fun v26 s26 hv26 Ws26 qs26 => ?_)
          obtain ⟨es26, qs26⟩ := qs26
          have es26 := es26.symm
          subst es26
          have h := h v26 hv26 qs26
          refine z_istore hC (pc := 29) (lv' := [(5, iv v26), (0, .ref (κ 0)), (1, iv x1), (2, iv y13_2), (3, iv y13_3), (4, iv y13_4)]) dX14_readText_29 (by decide) rfl ?_
          refine z_iload hC (pc := 31) 0 dX14_readText_31 rfl ?_
          obtain ⟨hT, hF⟩ := h
          refine y_if_lt hC (pc := 33) 47 hv26 dX14_readText_33 (by decide) (fun c => ?_) (fun c => ?_)
          · have h := hT c
            refine z_aload_n hC (pc := 47) 1 dX14_readText_47 rfl rfl ?_
            refine y_get hC (pc := 48) zf14 rOb_0 39 (v := iv (rF s13 0 39)) dX14_readText_48 zw2506 (rv_i (Or.inl rfl) rfl) (kk := ?_)
            have h := h (Ws13.f _ _)
            refine z_iload_n hC (pc := 51) 4 dX14_readText_51 rfl rfl ?_
            obtain ⟨hT, hF⟩ := h
            refine y_icmp_gt hC (pc := 52) 64 (Ws13.f _ _) hy13_3 dX14_readText_52 (by decide) (fun c => ?_) (fun c => ?_)
            · have h := hT c
              refine z_aload_n hC (pc := 64) 1 dX14_readText_64 rfl rfl ?_
              refine z_iconst hC (pc := 65) (v := Int32.ofInt 1) dX14_readText_65 (by decide) ?_
              refine z_aload_n hC (pc := 66) 1 dX14_readText_66 rfl rfl ?_
              obtain ⟨p27, h⟩ := h
              refine y_callVi hC (pc := 67) (As := []) (kX14_place l G κ s13  Ws13  p27) dmX14_place zf14 rOb_0 dX14_readText_67 zw3103 rfl rfl (Nat.le_of_ble_eq_true rfl) (Nat.le_of_ble_eq_true rfl) (by omega) (by omega) (Nat.le_of_ble_eq_true rfl) (kk := fun v67 s67 hv67 Ws67 qs67 => ?_)
              obtain ⟨es67, qs67⟩ := qs67
              have es67 := es67.symm
              subst es67
              have h := h v67 hv67 qs67
              obtain ⟨p28, h⟩ := h
              refine y_callVv hC (pc := 70) (As := [iv 1, iv v67]) (kX14_bad l G κ s13 1 v67 Ws13 (r_lit rfl) hv67 p28) dmX14_bad zf14 rOb_0 dX14_readText_70 zw3000 rfl rfl (Nat.le_of_ble_eq_true rfl) (Nat.le_of_ble_eq_true rfl) (by omega) (by omega) (Nat.le_of_ble_eq_true rfl) (kk := fun s70 Ws70 qs70 => ?_)
              have h := h s70 Ws70 (rNMp.keep qs70.1 rfl rfl rfl rfl rfl) (TPRp.keep qs70.1 rfl rfl rfl) (WNp.keep qs70.1 rfl rfl rfl rfl rfl) (PNp.keep qs70.1 rfl rfl rfl rfl rfl) (CCp.keep qs70.1 rfl rfl rfl rfl rfl rfl rfl) (qs70.1.R rfl) (qs70.1.F rfl) (qs70.1.F rfl) (qs70.1.F rfl) (qs70.1.F rfl) (qs70.1.F rfl) (qs70.1.F rfl) (qs70.1.F rfl) (qs70.1.F rfl) (qs70.1.F rfl) (qs70.1.F rfl) (qs70.1.F rfl) (fun i => qs70.1.A (f := 26) (by decide) rfl) (fun i => qs70.1.A (f := 34) (by decide) rfl) (fun i => qs70.1.A (f := 35) (by decide) rfl) (fun i => qs70.1.A (f := 36) (by decide) rfl) (fun i => qs70.1.A (f := 37) (by decide) rfl) (fun i => qs70.1.A (f := 40) (by decide) rfl) (qs70.1.FG g0 rfl) (qs70.1.FG g0 rfl) (qs70.1.FG g0 rfl) (qs70.1.FG g0 rfl) (qs70.1.FG g0 rfl) (fun i => qs70.1.AG (f := 10) g0 (by decide) rfl) (fun i => qs70.1.AG (f := 11) g0 (by decide) rfl) (fun i => qs70.1.AG (f := 31) g0 (by decide) rfl) (fun i => qs70.1.AG (f := 33) g0 (by decide) rfl) (fun i => qs70.1.AG (f := 34) g0 (by decide) rfl) (fun i => qs70.1.AG (f := 35) g0 (by decide) rfl) (RG.keep (c0 := 0) qs70.1 rfl rfl rfl rfl rfl rfl rfl rfl rfl rfl rfl rfl rfl rfl rfl rfl rfl rfl) qs70.2
              refine z_aload_n hC (pc := 73) 1 dX14_readText_73 rfl rfl ?_
              refine z_dup hC (pc := 74) dX14_readText_74 rfl ?_
              refine y_get hC (pc := 75) zf14 rOb_0 29 (v := iv (rF s13 0 29)) dX14_readText_75 zw2496 (rv_i (Or.inl rfl) ((qs70.1.F rfl).trans rfl)) (kk := ?_)
              have h := h (Ws13.f _ _)
              refine z_iload hC (pc := 78) 0 dX14_readText_78 rfl ?_
              obtain ⟨hT, hF⟩ := h
              refine y_if_ge hC (pc := 80) 87 hv26 dX14_readText_80 (by decide) (fun c => ?_) (fun c => ?_)
              · have h := hT c
                refine z_iconst hC (pc := 87) (v := Int32.ofInt 1) dX14_readText_87 (by decide) ?_
                refine y_iadd hC (pc := 88) (v := ((rF s13 0 29) + 1)) dX14_readText_88 rfl ?_
                obtain ⟨r29, h⟩ := h
                refine y_putI hC (pc := 89) zf14 rOb_0 29 (x := ((rF s13 0 29) + 1)) dX14_readText_89 zw2496 (Or.inl rfl) rfl rfl (kk := ?_)
                have W30 := Ws70.sF (q := 0) (f := 29) (x := ((rF s13 0 29) + 1)) r29
                refine z_iconst hC (pc := 92) (v := Int32.ofInt 0) dX14_readText_92 (by decide) ?_
                refine z_istore hC (pc := 93) (lv' := [(4, iv 0), (5, iv v26), (0, .ref (κ 0)), (1, iv x1), (2, iv y13_2), (3, iv y13_3)]) dX14_readText_93 (by decide) rfl ?_
                refine z_goto hC (pc := 95) 250 dX14_readText_95 (by decide) ?_
                refine z_goto hC (pc := 250) 13 dX14_readText_250 (by decide) ?_
                refine z_lvs [2, 3, 4, 5, 0] rfl ?_
                obtain ⟨hI, hm⟩ := h
                exact ih13 (sF s70 0 29 ((rF s13 0 29) + 1)) y13_2 y13_3 0 W30 hy13_2 hy13_3 (r_lit rfl) (rKeep.tr (rKeep.tr (rKeep.tr rKeep.rf kJ rfl rfl rfl rfl rfl) qs70.1 rfl rfl rfl rfl rfl) (rKeep.sF0 (f := 29)) rfl rfl rfl rfl rfl) hI (by omega)
              · have h := hF c
                refine z_iconst hC (pc := 83) (v := Int32.ofInt 0) dX14_readText_83 (by decide) ?_
                refine z_goto hC (pc := 84) 88 dX14_readText_84 (by decide) ?_
                refine y_iadd hC (pc := 88) (v := ((rF s13 0 29) + 0)) dX14_readText_88 rfl ?_
                obtain ⟨r31, h⟩ := h
                refine y_putI hC (pc := 89) zf14 rOb_0 29 (x := ((rF s13 0 29) + 0)) dX14_readText_89 zw2496 (Or.inl rfl) rfl rfl (kk := ?_)
                have W32 := Ws70.sF (q := 0) (f := 29) (x := ((rF s13 0 29) + 0)) r31
                refine z_iconst hC (pc := 92) (v := Int32.ofInt 0) dX14_readText_92 (by decide) ?_
                refine z_istore hC (pc := 93) (lv' := [(4, iv 0), (5, iv v26), (0, .ref (κ 0)), (1, iv x1), (2, iv y13_2), (3, iv y13_3)]) dX14_readText_93 (by decide) rfl ?_
                refine z_goto hC (pc := 95) 250 dX14_readText_95 (by decide) ?_
                refine z_goto hC (pc := 250) 13 dX14_readText_250 (by decide) ?_
                refine z_lvs [2, 3, 4, 5, 0] rfl ?_
                obtain ⟨hI, hm⟩ := h
                exact ih13 (sF s70 0 29 ((rF s13 0 29) + 0)) y13_2 y13_3 0 W32 hy13_2 hy13_3 (r_lit rfl) (rKeep.tr (rKeep.tr (rKeep.tr rKeep.rf kJ rfl rfl rfl rfl rfl) qs70.1 rfl rfl rfl rfl rfl) (rKeep.sF0 (f := 29)) rfl rfl rfl rfl rfl) hI (by omega)
            · have h := hF c
              refine z_iload_n hC (pc := 55) 2 dX14_readText_55 rfl rfl ?_
              obtain ⟨hT, hF⟩ := h
              refine y_if_eq hC (pc := 56) 73 hx1 dX14_readText_56 (by decide) (fun c => ?_) (fun c => ?_)
              · have h := hT c
                refine z_aload_n hC (pc := 73) 1 dX14_readText_73 rfl rfl ?_
                refine z_dup hC (pc := 74) dX14_readText_74 rfl ?_
                refine y_get hC (pc := 75) zf14 rOb_0 29 (v := iv (rF s13 0 29)) dX14_readText_75 zw2496 (rv_i (Or.inl rfl) rfl) (kk := ?_)
                have h := h (Ws13.f _ _)
                refine z_iload hC (pc := 78) 0 dX14_readText_78 rfl ?_
                obtain ⟨hT, hF⟩ := h
                refine y_if_ge hC (pc := 80) 87 hv26 dX14_readText_80 (by decide) (fun c => ?_) (fun c => ?_)
                · have h := hT c
                  refine z_iconst hC (pc := 87) (v := Int32.ofInt 1) dX14_readText_87 (by decide) ?_
                  refine y_iadd hC (pc := 88) (v := ((rF s13 0 29) + 1)) dX14_readText_88 rfl ?_
                  obtain ⟨r33, h⟩ := h
                  refine y_putI hC (pc := 89) zf14 rOb_0 29 (x := ((rF s13 0 29) + 1)) dX14_readText_89 zw2496 (Or.inl rfl) rfl rfl (kk := ?_)
                  have W34 := Ws13.sF (q := 0) (f := 29) (x := ((rF s13 0 29) + 1)) r33
                  refine z_iconst hC (pc := 92) (v := Int32.ofInt 0) dX14_readText_92 (by decide) ?_
                  refine z_istore hC (pc := 93) (lv' := [(4, iv 0), (5, iv v26), (0, .ref (κ 0)), (1, iv x1), (2, iv y13_2), (3, iv y13_3)]) dX14_readText_93 (by decide) rfl ?_
                  refine z_goto hC (pc := 95) 250 dX14_readText_95 (by decide) ?_
                  refine z_goto hC (pc := 250) 13 dX14_readText_250 (by decide) ?_
                  refine z_lvs [2, 3, 4, 5, 0] rfl ?_
                  obtain ⟨hI, hm⟩ := h
                  exact ih13 (sF s13 0 29 ((rF s13 0 29) + 1)) y13_2 y13_3 0 W34 hy13_2 hy13_3 (r_lit rfl) (rKeep.tr (rKeep.tr rKeep.rf kJ rfl rfl rfl rfl rfl) (rKeep.sF0 (f := 29)) rfl rfl rfl rfl rfl) hI (by omega)
                · have h := hF c
                  refine z_iconst hC (pc := 83) (v := Int32.ofInt 0) dX14_readText_83 (by decide) ?_
                  refine z_goto hC (pc := 84) 88 dX14_readText_84 (by decide) ?_
                  refine y_iadd hC (pc := 88) (v := ((rF s13 0 29) + 0)) dX14_readText_88 rfl ?_
                  obtain ⟨r35, h⟩ := h
                  refine y_putI hC (pc := 89) zf14 rOb_0 29 (x := ((rF s13 0 29) + 0)) dX14_readText_89 zw2496 (Or.inl rfl) rfl rfl (kk := ?_)
                  have W36 := Ws13.sF (q := 0) (f := 29) (x := ((rF s13 0 29) + 0)) r35
                  refine z_iconst hC (pc := 92) (v := Int32.ofInt 0) dX14_readText_92 (by decide) ?_
                  refine z_istore hC (pc := 93) (lv' := [(4, iv 0), (5, iv v26), (0, .ref (κ 0)), (1, iv x1), (2, iv y13_2), (3, iv y13_3)]) dX14_readText_93 (by decide) rfl ?_
                  refine z_goto hC (pc := 95) 250 dX14_readText_95 (by decide) ?_
                  refine z_goto hC (pc := 250) 13 dX14_readText_250 (by decide) ?_
                  refine z_lvs [2, 3, 4, 5, 0] rfl ?_
                  obtain ⟨hI, hm⟩ := h
                  exact ih13 (sF s13 0 29 ((rF s13 0 29) + 0)) y13_2 y13_3 0 W36 hy13_2 hy13_3 (r_lit rfl) (rKeep.tr (rKeep.tr rKeep.rf kJ rfl rfl rfl rfl rfl) (rKeep.sF0 (f := 29)) rfl rfl rfl rfl rfl) hI (by omega)
              · have h := hF c
                refine z_iload hC (pc := 59) 0 dX14_readText_59 rfl ?_
                obtain ⟨hT, hF⟩ := h
                refine y_if_ge hC (pc := 61) 73 hv26 dX14_readText_61 (by decide) (fun c => ?_) (fun c => ?_)
                · have h := hT c
                  refine z_aload_n hC (pc := 73) 1 dX14_readText_73 rfl rfl ?_
                  refine z_dup hC (pc := 74) dX14_readText_74 rfl ?_
                  refine y_get hC (pc := 75) zf14 rOb_0 29 (v := iv (rF s13 0 29)) dX14_readText_75 zw2496 (rv_i (Or.inl rfl) rfl) (kk := ?_)
                  have h := h (Ws13.f _ _)
                  refine z_iload hC (pc := 78) 0 dX14_readText_78 rfl ?_
                  obtain ⟨hT, hF⟩ := h
                  refine y_if_ge hC (pc := 80) 87 hv26 dX14_readText_80 (by decide) (fun c => ?_) (fun c => ?_)
                  · have h := hT c
                    refine z_iconst hC (pc := 87) (v := Int32.ofInt 1) dX14_readText_87 (by decide) ?_
                    refine y_iadd hC (pc := 88) (v := ((rF s13 0 29) + 1)) dX14_readText_88 rfl ?_
                    obtain ⟨r37, h⟩ := h
                    refine y_putI hC (pc := 89) zf14 rOb_0 29 (x := ((rF s13 0 29) + 1)) dX14_readText_89 zw2496 (Or.inl rfl) rfl rfl (kk := ?_)
                    have W38 := Ws13.sF (q := 0) (f := 29) (x := ((rF s13 0 29) + 1)) r37
                    refine z_iconst hC (pc := 92) (v := Int32.ofInt 0) dX14_readText_92 (by decide) ?_
                    refine z_istore hC (pc := 93) (lv' := [(4, iv 0), (5, iv v26), (0, .ref (κ 0)), (1, iv x1), (2, iv y13_2), (3, iv y13_3)]) dX14_readText_93 (by decide) rfl ?_
                    refine z_goto hC (pc := 95) 250 dX14_readText_95 (by decide) ?_
                    refine z_goto hC (pc := 250) 13 dX14_readText_250 (by decide) ?_
                    refine z_lvs [2, 3, 4, 5, 0] rfl ?_
                    obtain ⟨hI, hm⟩ := h
                    exact ih13 (sF s13 0 29 ((rF s13 0 29) + 1)) y13_2 y13_3 0 W38 hy13_2 hy13_3 (r_lit rfl) (rKeep.tr (rKeep.tr rKeep.rf kJ rfl rfl rfl rfl rfl) (rKeep.sF0 (f := 29)) rfl rfl rfl rfl rfl) hI (by omega)
                  · have h := hF c
                    refine z_iconst hC (pc := 83) (v := Int32.ofInt 0) dX14_readText_83 (by decide) ?_
                    refine z_goto hC (pc := 84) 88 dX14_readText_84 (by decide) ?_
                    refine y_iadd hC (pc := 88) (v := ((rF s13 0 29) + 0)) dX14_readText_88 rfl ?_
                    obtain ⟨r39, h⟩ := h
                    refine y_putI hC (pc := 89) zf14 rOb_0 29 (x := ((rF s13 0 29) + 0)) dX14_readText_89 zw2496 (Or.inl rfl) rfl rfl (kk := ?_)
                    have W40 := Ws13.sF (q := 0) (f := 29) (x := ((rF s13 0 29) + 0)) r39
                    refine z_iconst hC (pc := 92) (v := Int32.ofInt 0) dX14_readText_92 (by decide) ?_
                    refine z_istore hC (pc := 93) (lv' := [(4, iv 0), (5, iv v26), (0, .ref (κ 0)), (1, iv x1), (2, iv y13_2), (3, iv y13_3)]) dX14_readText_93 (by decide) rfl ?_
                    refine z_goto hC (pc := 95) 250 dX14_readText_95 (by decide) ?_
                    refine z_goto hC (pc := 250) 13 dX14_readText_250 (by decide) ?_
                    refine z_lvs [2, 3, 4, 5, 0] rfl ?_
                    obtain ⟨hI, hm⟩ := h
                    exact ih13 (sF s13 0 29 ((rF s13 0 29) + 0)) y13_2 y13_3 0 W40 hy13_2 hy13_3 (r_lit rfl) (rKeep.tr (rKeep.tr rKeep.rf kJ rfl rfl rfl rfl rfl) (rKeep.sF0 (f := 29)) rfl rfl rfl rfl rfl) hI (by omega)
                · have h := hF c
                  refine z_aload_n hC (pc := 64) 1 dX14_readText_64 rfl rfl ?_
                  refine z_iconst hC (pc := 65) (v := Int32.ofInt 1) dX14_readText_65 (by decide) ?_
                  refine z_aload_n hC (pc := 66) 1 dX14_readText_66 rfl rfl ?_
                  obtain ⟨p41, h⟩ := h
                  refine y_callVi hC (pc := 67) (As := []) (kX14_place l G κ s13  Ws13  p41) dmX14_place zf14 rOb_0 dX14_readText_67 zw3103 rfl rfl (Nat.le_of_ble_eq_true rfl) (Nat.le_of_ble_eq_true rfl) (by omega) (by omega) (Nat.le_of_ble_eq_true rfl) (kk := fun v67 s67 hv67 Ws67 qs67 => ?_)
                  obtain ⟨es67, qs67⟩ := qs67
                  have es67 := es67.symm
                  subst es67
                  have h := h v67 hv67 qs67
                  obtain ⟨p42, h⟩ := h
                  refine y_callVv hC (pc := 70) (As := [iv 1, iv v67]) (kX14_bad l G κ s13 1 v67 Ws13 (r_lit rfl) hv67 p42) dmX14_bad zf14 rOb_0 dX14_readText_70 zw3000 rfl rfl (Nat.le_of_ble_eq_true rfl) (Nat.le_of_ble_eq_true rfl) (by omega) (by omega) (Nat.le_of_ble_eq_true rfl) (kk := fun s70 Ws70 qs70 => ?_)
                  have h := h s70 Ws70 (rNMp.keep qs70.1 rfl rfl rfl rfl rfl) (TPRp.keep qs70.1 rfl rfl rfl) (WNp.keep qs70.1 rfl rfl rfl rfl rfl) (PNp.keep qs70.1 rfl rfl rfl rfl rfl) (CCp.keep qs70.1 rfl rfl rfl rfl rfl rfl rfl) (qs70.1.R rfl) (qs70.1.F rfl) (qs70.1.F rfl) (qs70.1.F rfl) (qs70.1.F rfl) (qs70.1.F rfl) (qs70.1.F rfl) (qs70.1.F rfl) (qs70.1.F rfl) (qs70.1.F rfl) (qs70.1.F rfl) (qs70.1.F rfl) (fun i => qs70.1.A (f := 26) (by decide) rfl) (fun i => qs70.1.A (f := 34) (by decide) rfl) (fun i => qs70.1.A (f := 35) (by decide) rfl) (fun i => qs70.1.A (f := 36) (by decide) rfl) (fun i => qs70.1.A (f := 37) (by decide) rfl) (fun i => qs70.1.A (f := 40) (by decide) rfl) (qs70.1.FG g0 rfl) (qs70.1.FG g0 rfl) (qs70.1.FG g0 rfl) (qs70.1.FG g0 rfl) (qs70.1.FG g0 rfl) (fun i => qs70.1.AG (f := 10) g0 (by decide) rfl) (fun i => qs70.1.AG (f := 11) g0 (by decide) rfl) (fun i => qs70.1.AG (f := 31) g0 (by decide) rfl) (fun i => qs70.1.AG (f := 33) g0 (by decide) rfl) (fun i => qs70.1.AG (f := 34) g0 (by decide) rfl) (fun i => qs70.1.AG (f := 35) g0 (by decide) rfl) (RG.keep (c0 := 0) qs70.1 rfl rfl rfl rfl rfl rfl rfl rfl rfl rfl rfl rfl rfl rfl rfl rfl rfl rfl) qs70.2
                  refine z_aload_n hC (pc := 73) 1 dX14_readText_73 rfl rfl ?_
                  refine z_dup hC (pc := 74) dX14_readText_74 rfl ?_
                  refine y_get hC (pc := 75) zf14 rOb_0 29 (v := iv (rF s13 0 29)) dX14_readText_75 zw2496 (rv_i (Or.inl rfl) ((qs70.1.F rfl).trans rfl)) (kk := ?_)
                  have h := h (Ws13.f _ _)
                  refine z_iload hC (pc := 78) 0 dX14_readText_78 rfl ?_
                  obtain ⟨hT, hF⟩ := h
                  refine y_if_ge hC (pc := 80) 87 hv26 dX14_readText_80 (by decide) (fun c => ?_) (fun c => ?_)
                  · have h := hT c
                    refine z_iconst hC (pc := 87) (v := Int32.ofInt 1) dX14_readText_87 (by decide) ?_
                    refine y_iadd hC (pc := 88) (v := ((rF s13 0 29) + 1)) dX14_readText_88 rfl ?_
                    obtain ⟨r43, h⟩ := h
                    refine y_putI hC (pc := 89) zf14 rOb_0 29 (x := ((rF s13 0 29) + 1)) dX14_readText_89 zw2496 (Or.inl rfl) rfl rfl (kk := ?_)
                    have W44 := Ws70.sF (q := 0) (f := 29) (x := ((rF s13 0 29) + 1)) r43
                    refine z_iconst hC (pc := 92) (v := Int32.ofInt 0) dX14_readText_92 (by decide) ?_
                    refine z_istore hC (pc := 93) (lv' := [(4, iv 0), (5, iv v26), (0, .ref (κ 0)), (1, iv x1), (2, iv y13_2), (3, iv y13_3)]) dX14_readText_93 (by decide) rfl ?_
                    refine z_goto hC (pc := 95) 250 dX14_readText_95 (by decide) ?_
                    refine z_goto hC (pc := 250) 13 dX14_readText_250 (by decide) ?_
                    refine z_lvs [2, 3, 4, 5, 0] rfl ?_
                    obtain ⟨hI, hm⟩ := h
                    exact ih13 (sF s70 0 29 ((rF s13 0 29) + 1)) y13_2 y13_3 0 W44 hy13_2 hy13_3 (r_lit rfl) (rKeep.tr (rKeep.tr (rKeep.tr rKeep.rf kJ rfl rfl rfl rfl rfl) qs70.1 rfl rfl rfl rfl rfl) (rKeep.sF0 (f := 29)) rfl rfl rfl rfl rfl) hI (by omega)
                  · have h := hF c
                    refine z_iconst hC (pc := 83) (v := Int32.ofInt 0) dX14_readText_83 (by decide) ?_
                    refine z_goto hC (pc := 84) 88 dX14_readText_84 (by decide) ?_
                    refine y_iadd hC (pc := 88) (v := ((rF s13 0 29) + 0)) dX14_readText_88 rfl ?_
                    obtain ⟨r45, h⟩ := h
                    refine y_putI hC (pc := 89) zf14 rOb_0 29 (x := ((rF s13 0 29) + 0)) dX14_readText_89 zw2496 (Or.inl rfl) rfl rfl (kk := ?_)
                    have W46 := Ws70.sF (q := 0) (f := 29) (x := ((rF s13 0 29) + 0)) r45
                    refine z_iconst hC (pc := 92) (v := Int32.ofInt 0) dX14_readText_92 (by decide) ?_
                    refine z_istore hC (pc := 93) (lv' := [(4, iv 0), (5, iv v26), (0, .ref (κ 0)), (1, iv x1), (2, iv y13_2), (3, iv y13_3)]) dX14_readText_93 (by decide) rfl ?_
                    refine z_goto hC (pc := 95) 250 dX14_readText_95 (by decide) ?_
                    refine z_goto hC (pc := 250) 13 dX14_readText_250 (by decide) ?_
                    refine z_lvs [2, 3, 4, 5, 0] rfl ?_
                    obtain ⟨hI, hm⟩ := h
                    exact ih13 (sF s70 0 29 ((rF s13 0 29) + 0)) y13_2 y13_3 0 W46 hy13_2 hy13_3 (r_lit rfl) (rKeep.tr (rKeep.tr (rKeep.tr rKeep.rf kJ rfl rfl rfl rfl rfl) qs70.1 rfl rfl rfl rfl rfl) (rKeep.sF0 (f := 29)) rfl rfl rfl rfl rfl) hI (by omega)
          · have h := hF c
            refine z_iload_n hC (pc := 36) 2 dX14_readText_36 rfl rfl ?_
            obtain ⟨hT, hF⟩ := h
            refine y_if_eq hC (pc := 37) 98 hx1 dX14_readText_37 (by decide) (fun c => ?_) (fun c => ?_)
            · have h := hT c
              refine z_iload hC (pc := 98) 0 dX14_readText_98 rfl ?_
              refine z_aload_n hC (pc := 100) 1 dX14_readText_100 rfl rfl ?_
              refine y_get hC (pc := 101) zf14 rOb_0 18 (v := iv (rF s13 0 18)) dX14_readText_101 zw2485 (rv_i (Or.inl rfl) rfl) (kk := ?_)
              have h := h (Ws13.f _ _)
              obtain ⟨hT, hF⟩ := h
              refine y_icmp_ne hC (pc := 104) 115 hv26 (Ws13.f _ _) dX14_readText_104 (by decide) (fun c => ?_) (fun c => ?_)
              · have h := hT c
                refine z_iload hC (pc := 115) 0 dX14_readText_115 rfl ?_
                refine z_bipush hC (pc := 117) (v := Int32.ofInt 92) dX14_readText_117 (by decide) ?_
                obtain ⟨hT, hF⟩ := h
                refine y_icmp_ne hC (pc := 119) 218 hv26 (r_lit rfl) dX14_readText_119 (by decide) (fun c => ?_) (fun c => ?_)
                · have h := hT c
                  refine z_aload_n hC (pc := 218) 1 dX14_readText_218 rfl rfl ?_
                  refine z_iload hC (pc := 219) 0 dX14_readText_219 rfl ?_
                  refine z_bipush hC (pc := 221) (v := Int32.ofInt 10) dX14_readText_221 (by decide) ?_
                  obtain ⟨hT, hF⟩ := h
                  refine y_icmp_ne hC (pc := 223) 230 hv26 (r_lit rfl) dX14_readText_223 (by decide) (fun c => ?_) (fun c => ?_)
                  · have h := hT c
                    refine z_iconst hC (pc := 230) (v := Int32.ofInt 1) dX14_readText_230 (by decide) ?_
                    refine z_iload hC (pc := 231) 0 dX14_readText_231 rfl ?_
                    refine z_aload_n hC (pc := 233) 1 dX14_readText_233 rfl rfl ?_
                    obtain ⟨p47, h⟩ := h
                    refine y_callVi hC (pc := 234) (As := []) (kX14_place l G κ s13  Ws13  p47) dmX14_place zf14 rOb_0 dX14_readText_234 zw3103 rfl rfl (Nat.le_of_ble_eq_true rfl) (Nat.le_of_ble_eq_true rfl) (by omega) (by omega) (Nat.le_of_ble_eq_true rfl) (kk := fun v234 s234 hv234 Ws234 qs234 => ?_)
                    obtain ⟨es234, qs234⟩ := qs234
                    have es234 := es234.symm
                    subst es234
                    have h := h v234 hv234 qs234
                    obtain ⟨p48, h⟩ := h
                    refine y_callVv hC (pc := 237) (As := [iv 1, iv v26, iv v234]) (kX14_note_t l G κ s13 1 v26 v234 gg Ws13 (r_lit rfl) hv26 hv234 p48) dmX14_note zf14 rOb_0 dX14_readText_237 zw3111 rfl rfl (Nat.le_of_ble_eq_true rfl) (Nat.le_of_ble_eq_true rfl) (by omega) (by omega) (Nat.le_of_ble_eq_true rfl) (kk := fun s237 Ws237 qs237 => ?_)
                    have h := h s237 Ws237 (rNMp.keep qs237.1 rfl rfl rfl rfl rfl) (TPRp.keep qs237.1 rfl rfl rfl) (PNp.keep qs237.1 rfl rfl rfl rfl rfl) (CCp.keep qs237.1 rfl rfl rfl rfl rfl rfl rfl) (qs237.1.R rfl) (qs237.1.F rfl) (qs237.1.F rfl) (qs237.1.F rfl) (qs237.1.F rfl) (qs237.1.F rfl) (qs237.1.F rfl) (qs237.1.F rfl) (qs237.1.F rfl) (qs237.1.F rfl) (qs237.1.F rfl) (qs237.1.F rfl) (fun i => qs237.1.A (f := 26) (by decide) rfl) (fun i => qs237.1.A (f := 40) (by decide) rfl) (qs237.1.FG g0 rfl) (qs237.1.FG g0 rfl) (qs237.1.FG g0 rfl) (qs237.1.FG g0 rfl) (qs237.1.FG g0 rfl) (fun i => qs237.1.AG (f := 10) g0 (by decide) rfl) (fun i => qs237.1.AG (f := 11) g0 (by decide) rfl) (fun i => qs237.1.AG (f := 31) g0 (by decide) rfl) (fun i => qs237.1.AG (f := 33) g0 (by decide) rfl) (fun i => qs237.1.AG (f := 34) g0 (by decide) rfl) (fun i => qs237.1.AG (f := 35) g0 (by decide) rfl) (fz_keep qs237.1 rfl) qs237.2
                    refine z_aload_n hC (pc := 240) 1 dX14_readText_240 rfl rfl ?_
                    refine z_dup hC (pc := 241) dX14_readText_241 rfl ?_
                    refine y_get hC (pc := 242) zf14 rOb_0 29 (v := iv (rF s13 0 29)) dX14_readText_242 zw2496 (rv_i (Or.inl rfl) ((qs237.1.F rfl).trans rfl)) (kk := ?_)
                    have h := h (Ws13.f _ _)
                    refine z_iconst hC (pc := 245) (v := Int32.ofInt 1) dX14_readText_245 (by decide) ?_
                    refine y_iadd hC (pc := 246) (v := ((rF s13 0 29) + 1)) dX14_readText_246 rfl ?_
                    obtain ⟨r49, h⟩ := h
                    refine y_putI hC (pc := 247) zf14 rOb_0 29 (x := ((rF s13 0 29) + 1)) dX14_readText_247 zw2496 (Or.inl rfl) rfl rfl (kk := ?_)
                    have W50 := Ws237.sF (q := 0) (f := 29) (x := ((rF s13 0 29) + 1)) r49
                    refine z_goto hC (pc := 250) 13 dX14_readText_250 (by decide) ?_
                    refine z_lvs [1, 2, 3, 4, 5] rfl ?_
                    obtain ⟨hI, hm⟩ := h
                    exact ih13 (sF s237 0 29 ((rF s13 0 29) + 1)) y13_2 y13_3 y13_4 W50 hy13_2 hy13_3 hy13_4 (rKeep.tr (rKeep.tr (rKeep.tr rKeep.rf kJ rfl rfl rfl rfl rfl) qs237.1 rfl rfl rfl rfl rfl) (rKeep.sF0 (f := 29)) rfl rfl rfl rfl rfl) hI (by omega)
                  · have h := hF c
                    refine z_iconst hC (pc := 226) (v := Int32.ofInt 2) dX14_readText_226 (by decide) ?_
                    refine z_goto hC (pc := 227) 231 dX14_readText_227 (by decide) ?_
                    refine z_iload hC (pc := 231) 0 dX14_readText_231 rfl ?_
                    refine z_aload_n hC (pc := 233) 1 dX14_readText_233 rfl rfl ?_
                    obtain ⟨p51, h⟩ := h
                    refine y_callVi hC (pc := 234) (As := []) (kX14_place l G κ s13  Ws13  p51) dmX14_place zf14 rOb_0 dX14_readText_234 zw3103 rfl rfl (Nat.le_of_ble_eq_true rfl) (Nat.le_of_ble_eq_true rfl) (by omega) (by omega) (Nat.le_of_ble_eq_true rfl) (kk := fun v234 s234 hv234 Ws234 qs234 => ?_)
                    obtain ⟨es234, qs234⟩ := qs234
                    have es234 := es234.symm
                    subst es234
                    have h := h v234 hv234 qs234
                    obtain ⟨p52, h⟩ := h
                    refine y_callVv hC (pc := 237) (As := [iv 2, iv v26, iv v234]) (kX14_note_t l G κ s13 2 v26 v234 gg Ws13 (r_lit rfl) hv26 hv234 p52) dmX14_note zf14 rOb_0 dX14_readText_237 zw3111 rfl rfl (Nat.le_of_ble_eq_true rfl) (Nat.le_of_ble_eq_true rfl) (by omega) (by omega) (Nat.le_of_ble_eq_true rfl) (kk := fun s237 Ws237 qs237 => ?_)
                    have h := h s237 Ws237 (rNMp.keep qs237.1 rfl rfl rfl rfl rfl) (TPRp.keep qs237.1 rfl rfl rfl) (PNp.keep qs237.1 rfl rfl rfl rfl rfl) (CCp.keep qs237.1 rfl rfl rfl rfl rfl rfl rfl) (qs237.1.R rfl) (qs237.1.F rfl) (qs237.1.F rfl) (qs237.1.F rfl) (qs237.1.F rfl) (qs237.1.F rfl) (qs237.1.F rfl) (qs237.1.F rfl) (qs237.1.F rfl) (qs237.1.F rfl) (qs237.1.F rfl) (qs237.1.F rfl) (fun i => qs237.1.A (f := 26) (by decide) rfl) (fun i => qs237.1.A (f := 40) (by decide) rfl) (qs237.1.FG g0 rfl) (qs237.1.FG g0 rfl) (qs237.1.FG g0 rfl) (qs237.1.FG g0 rfl) (qs237.1.FG g0 rfl) (fun i => qs237.1.AG (f := 10) g0 (by decide) rfl) (fun i => qs237.1.AG (f := 11) g0 (by decide) rfl) (fun i => qs237.1.AG (f := 31) g0 (by decide) rfl) (fun i => qs237.1.AG (f := 33) g0 (by decide) rfl) (fun i => qs237.1.AG (f := 34) g0 (by decide) rfl) (fun i => qs237.1.AG (f := 35) g0 (by decide) rfl) (fz_keep qs237.1 rfl) qs237.2
                    refine z_aload_n hC (pc := 240) 1 dX14_readText_240 rfl rfl ?_
                    refine z_dup hC (pc := 241) dX14_readText_241 rfl ?_
                    refine y_get hC (pc := 242) zf14 rOb_0 29 (v := iv (rF s13 0 29)) dX14_readText_242 zw2496 (rv_i (Or.inl rfl) ((qs237.1.F rfl).trans rfl)) (kk := ?_)
                    have h := h (Ws13.f _ _)
                    refine z_iconst hC (pc := 245) (v := Int32.ofInt 1) dX14_readText_245 (by decide) ?_
                    refine y_iadd hC (pc := 246) (v := ((rF s13 0 29) + 1)) dX14_readText_246 rfl ?_
                    obtain ⟨r53, h⟩ := h
                    refine y_putI hC (pc := 247) zf14 rOb_0 29 (x := ((rF s13 0 29) + 1)) dX14_readText_247 zw2496 (Or.inl rfl) rfl rfl (kk := ?_)
                    have W54 := Ws237.sF (q := 0) (f := 29) (x := ((rF s13 0 29) + 1)) r53
                    refine z_goto hC (pc := 250) 13 dX14_readText_250 (by decide) ?_
                    refine z_lvs [1, 2, 3, 4, 5] rfl ?_
                    obtain ⟨hI, hm⟩ := h
                    exact ih13 (sF s237 0 29 ((rF s13 0 29) + 1)) y13_2 y13_3 y13_4 W54 hy13_2 hy13_3 hy13_4 (rKeep.tr (rKeep.tr (rKeep.tr rKeep.rf kJ rfl rfl rfl rfl rfl) qs237.1 rfl rfl rfl rfl rfl) (rKeep.sF0 (f := 29)) rfl rfl rfl rfl rfl) hI (by omega)
                · have h := hF c
                  refine z_aload_n hC (pc := 122) 1 dX14_readText_122 rfl rfl ?_
                  refine y_get hC (pc := 123) zf14 rOb_0 29 (v := iv (rF s13 0 29)) dX14_readText_123 zw2496 (rv_i (Or.inl rfl) rfl) (kk := ?_)
                  have h := h (Ws13.f _ _)
                  refine z_iconst hC (pc := 126) (v := Int32.ofInt 1) dX14_readText_126 (by decide) ?_
                  refine y_iadd hC (pc := 127) (v := ((rF s13 0 29) + 1)) dX14_readText_127 rfl ?_
                  refine z_aload_n hC (pc := 128) 1 dX14_readText_128 rfl rfl ?_
                  refine y_get hC (pc := 129) zf14 rOb_0 28 (v := iv (rF s13 0 28)) dX14_readText_129 zw2495 (rv_i (Or.inl rfl) rfl) (kk := ?_)
                  have h := h (Ws13.f _ _)
                  obtain ⟨r55, h⟩ := h
                  obtain ⟨hT, hF⟩ := h
                  refine y_icmp_ge hC (pc := 132) 218 r55 (Ws13.f _ _) dX14_readText_132 (by decide) (fun c => ?_) (fun c => ?_)
                  · have h := hT c
                    refine z_aload_n hC (pc := 218) 1 dX14_readText_218 rfl rfl ?_
                    refine z_iload hC (pc := 219) 0 dX14_readText_219 rfl ?_
                    refine z_bipush hC (pc := 221) (v := Int32.ofInt 10) dX14_readText_221 (by decide) ?_
                    obtain ⟨hT, hF⟩ := h
                    refine y_icmp_ne hC (pc := 223) 230 hv26 (r_lit rfl) dX14_readText_223 (by decide) (fun c => ?_) (fun c => ?_)
                    · have h := hT c
                      refine z_iconst hC (pc := 230) (v := Int32.ofInt 1) dX14_readText_230 (by decide) ?_
                      refine z_iload hC (pc := 231) 0 dX14_readText_231 rfl ?_
                      refine z_aload_n hC (pc := 233) 1 dX14_readText_233 rfl rfl ?_
                      obtain ⟨p56, h⟩ := h
                      refine y_callVi hC (pc := 234) (As := []) (kX14_place l G κ s13  Ws13  p56) dmX14_place zf14 rOb_0 dX14_readText_234 zw3103 rfl rfl (Nat.le_of_ble_eq_true rfl) (Nat.le_of_ble_eq_true rfl) (by omega) (by omega) (Nat.le_of_ble_eq_true rfl) (kk := fun v234 s234 hv234 Ws234 qs234 => ?_)
                      obtain ⟨es234, qs234⟩ := qs234
                      have es234 := es234.symm
                      subst es234
                      have h := h v234 hv234 qs234
                      obtain ⟨p57, h⟩ := h
                      refine y_callVv hC (pc := 237) (As := [iv 1, iv v26, iv v234]) (kX14_note_t l G κ s13 1 v26 v234 gg Ws13 (r_lit rfl) hv26 hv234 p57) dmX14_note zf14 rOb_0 dX14_readText_237 zw3111 rfl rfl (Nat.le_of_ble_eq_true rfl) (Nat.le_of_ble_eq_true rfl) (by omega) (by omega) (Nat.le_of_ble_eq_true rfl) (kk := fun s237 Ws237 qs237 => ?_)
                      have h := h s237 Ws237 (rNMp.keep qs237.1 rfl rfl rfl rfl rfl) (TPRp.keep qs237.1 rfl rfl rfl) (PNp.keep qs237.1 rfl rfl rfl rfl rfl) (CCp.keep qs237.1 rfl rfl rfl rfl rfl rfl rfl) (qs237.1.R rfl) (qs237.1.F rfl) (qs237.1.F rfl) (qs237.1.F rfl) (qs237.1.F rfl) (qs237.1.F rfl) (qs237.1.F rfl) (qs237.1.F rfl) (qs237.1.F rfl) (qs237.1.F rfl) (qs237.1.F rfl) (qs237.1.F rfl) (fun i => qs237.1.A (f := 26) (by decide) rfl) (fun i => qs237.1.A (f := 40) (by decide) rfl) (qs237.1.FG g0 rfl) (qs237.1.FG g0 rfl) (qs237.1.FG g0 rfl) (qs237.1.FG g0 rfl) (qs237.1.FG g0 rfl) (fun i => qs237.1.AG (f := 10) g0 (by decide) rfl) (fun i => qs237.1.AG (f := 11) g0 (by decide) rfl) (fun i => qs237.1.AG (f := 31) g0 (by decide) rfl) (fun i => qs237.1.AG (f := 33) g0 (by decide) rfl) (fun i => qs237.1.AG (f := 34) g0 (by decide) rfl) (fun i => qs237.1.AG (f := 35) g0 (by decide) rfl) (fz_keep qs237.1 rfl) qs237.2
                      refine z_aload_n hC (pc := 240) 1 dX14_readText_240 rfl rfl ?_
                      refine z_dup hC (pc := 241) dX14_readText_241 rfl ?_
                      refine y_get hC (pc := 242) zf14 rOb_0 29 (v := iv (rF s13 0 29)) dX14_readText_242 zw2496 (rv_i (Or.inl rfl) ((qs237.1.F rfl).trans rfl)) (kk := ?_)
                      refine z_iconst hC (pc := 245) (v := Int32.ofInt 1) dX14_readText_245 (by decide) ?_
                      refine y_iadd hC (pc := 246) (v := ((rF s13 0 29) + 1)) dX14_readText_246 rfl ?_
                      refine y_putI hC (pc := 247) zf14 rOb_0 29 (x := ((rF s13 0 29) + 1)) dX14_readText_247 zw2496 (Or.inl rfl) rfl rfl (kk := ?_)
                      have W58 := Ws237.sF (q := 0) (f := 29) (x := ((rF s13 0 29) + 1)) r55
                      refine z_goto hC (pc := 250) 13 dX14_readText_250 (by decide) ?_
                      refine z_lvs [1, 2, 3, 4, 5] rfl ?_
                      obtain ⟨hI, hm⟩ := h
                      exact ih13 (sF s237 0 29 ((rF s13 0 29) + 1)) y13_2 y13_3 y13_4 W58 hy13_2 hy13_3 hy13_4 (rKeep.tr (rKeep.tr (rKeep.tr rKeep.rf kJ rfl rfl rfl rfl rfl) qs237.1 rfl rfl rfl rfl rfl) (rKeep.sF0 (f := 29)) rfl rfl rfl rfl rfl) hI (by omega)
                    · have h := hF c
                      refine z_iconst hC (pc := 226) (v := Int32.ofInt 2) dX14_readText_226 (by decide) ?_
                      refine z_goto hC (pc := 227) 231 dX14_readText_227 (by decide) ?_
                      refine z_iload hC (pc := 231) 0 dX14_readText_231 rfl ?_
                      refine z_aload_n hC (pc := 233) 1 dX14_readText_233 rfl rfl ?_
                      obtain ⟨p59, h⟩ := h
                      refine y_callVi hC (pc := 234) (As := []) (kX14_place l G κ s13  Ws13  p59) dmX14_place zf14 rOb_0 dX14_readText_234 zw3103 rfl rfl (Nat.le_of_ble_eq_true rfl) (Nat.le_of_ble_eq_true rfl) (by omega) (by omega) (Nat.le_of_ble_eq_true rfl) (kk := fun v234 s234 hv234 Ws234 qs234 => ?_)
                      obtain ⟨es234, qs234⟩ := qs234
                      have es234 := es234.symm
                      subst es234
                      have h := h v234 hv234 qs234
                      obtain ⟨p60, h⟩ := h
                      refine y_callVv hC (pc := 237) (As := [iv 2, iv v26, iv v234]) (kX14_note_t l G κ s13 2 v26 v234 gg Ws13 (r_lit rfl) hv26 hv234 p60) dmX14_note zf14 rOb_0 dX14_readText_237 zw3111 rfl rfl (Nat.le_of_ble_eq_true rfl) (Nat.le_of_ble_eq_true rfl) (by omega) (by omega) (Nat.le_of_ble_eq_true rfl) (kk := fun s237 Ws237 qs237 => ?_)
                      have h := h s237 Ws237 (rNMp.keep qs237.1 rfl rfl rfl rfl rfl) (TPRp.keep qs237.1 rfl rfl rfl) (PNp.keep qs237.1 rfl rfl rfl rfl rfl) (CCp.keep qs237.1 rfl rfl rfl rfl rfl rfl rfl) (qs237.1.R rfl) (qs237.1.F rfl) (qs237.1.F rfl) (qs237.1.F rfl) (qs237.1.F rfl) (qs237.1.F rfl) (qs237.1.F rfl) (qs237.1.F rfl) (qs237.1.F rfl) (qs237.1.F rfl) (qs237.1.F rfl) (qs237.1.F rfl) (fun i => qs237.1.A (f := 26) (by decide) rfl) (fun i => qs237.1.A (f := 40) (by decide) rfl) (qs237.1.FG g0 rfl) (qs237.1.FG g0 rfl) (qs237.1.FG g0 rfl) (qs237.1.FG g0 rfl) (qs237.1.FG g0 rfl) (fun i => qs237.1.AG (f := 10) g0 (by decide) rfl) (fun i => qs237.1.AG (f := 11) g0 (by decide) rfl) (fun i => qs237.1.AG (f := 31) g0 (by decide) rfl) (fun i => qs237.1.AG (f := 33) g0 (by decide) rfl) (fun i => qs237.1.AG (f := 34) g0 (by decide) rfl) (fun i => qs237.1.AG (f := 35) g0 (by decide) rfl) (fz_keep qs237.1 rfl) qs237.2
                      refine z_aload_n hC (pc := 240) 1 dX14_readText_240 rfl rfl ?_
                      refine z_dup hC (pc := 241) dX14_readText_241 rfl ?_
                      refine y_get hC (pc := 242) zf14 rOb_0 29 (v := iv (rF s13 0 29)) dX14_readText_242 zw2496 (rv_i (Or.inl rfl) ((qs237.1.F rfl).trans rfl)) (kk := ?_)
                      refine z_iconst hC (pc := 245) (v := Int32.ofInt 1) dX14_readText_245 (by decide) ?_
                      refine y_iadd hC (pc := 246) (v := ((rF s13 0 29) + 1)) dX14_readText_246 rfl ?_
                      refine y_putI hC (pc := 247) zf14 rOb_0 29 (x := ((rF s13 0 29) + 1)) dX14_readText_247 zw2496 (Or.inl rfl) rfl rfl (kk := ?_)
                      have W61 := Ws237.sF (q := 0) (f := 29) (x := ((rF s13 0 29) + 1)) r55
                      refine z_goto hC (pc := 250) 13 dX14_readText_250 (by decide) ?_
                      refine z_lvs [1, 2, 3, 4, 5] rfl ?_
                      obtain ⟨hI, hm⟩ := h
                      exact ih13 (sF s237 0 29 ((rF s13 0 29) + 1)) y13_2 y13_3 y13_4 W61 hy13_2 hy13_3 hy13_4 (rKeep.tr (rKeep.tr (rKeep.tr rKeep.rf kJ rfl rfl rfl rfl rfl) qs237.1 rfl rfl rfl rfl rfl) (rKeep.sF0 (f := 29)) rfl rfl rfl rfl rfl) hI (by omega)
                  · have h := hF c
                    refine z_aload_n hC (pc := 135) 1 dX14_readText_135 rfl rfl ?_
                    refine y_get hC (pc := 136) zf14 rOb_0 26 (v := .ref (κ 1026)) dX14_readText_136 zw2493 (rv_c rfl) (kk := ?_)
                    refine z_aload_n hC (pc := 139) 1 dX14_readText_139 rfl rfl ?_
                    refine y_get hC (pc := 140) zf14 rOb_0 29 (v := iv (rF s13 0 29)) dX14_readText_140 zw2496 (rv_i (Or.inl rfl) rfl) (kk := ?_)
                    refine z_iconst hC (pc := 143) (v := Int32.ofInt 1) dX14_readText_143 (by decide) ?_
                    refine y_iadd hC (pc := 144) (v := ((rF s13 0 29) + 1)) dX14_readText_144 rfl ?_
                    obtain ⟨b62, h⟩ := h
                    refine y_bald hC (pc := 145) (rAr_m rfl) dX14_readText_145 b62 (v := (rA s13 1026 ((rF s13 0 29) + 1))) rfl (kk := ?_)
                    have h := h (Ws13.a _ _)
                    refine z_aload_n hC (pc := 146) 1 dX14_readText_146 rfl rfl ?_
                    refine y_get hC (pc := 147) zf14 rOb_0 18 (v := iv (rF s13 0 18)) dX14_readText_147 zw2485 (rv_i (Or.inl rfl) rfl) (kk := ?_)
                    obtain ⟨hT, hF⟩ := h
                    refine y_icmp_eq hC (pc := 150) 185 (Ws13.a _ _) (Ws13.f _ _) dX14_readText_150 (by decide) (fun c => ?_) (fun c => ?_)
                    · have h := hT c
                      refine z_aload_n hC (pc := 185) 1 dX14_readText_185 rfl rfl ?_
                      refine z_iconst hC (pc := 186) (v := Int32.ofInt 1) dX14_readText_186 (by decide) ?_
                      refine z_aload_n hC (pc := 187) 1 dX14_readText_187 rfl rfl ?_
                      refine y_get hC (pc := 188) zf14 rOb_0 26 (v := .ref (κ 1026)) dX14_readText_188 zw2493 (rv_c rfl) (kk := ?_)
                      refine z_aload_n hC (pc := 191) 1 dX14_readText_191 rfl rfl ?_
                      refine y_get hC (pc := 192) zf14 rOb_0 29 (v := iv (rF s13 0 29)) dX14_readText_192 zw2496 (rv_i (Or.inl rfl) rfl) (kk := ?_)
                      refine z_iconst hC (pc := 195) (v := Int32.ofInt 1) dX14_readText_195 (by decide) ?_
                      refine y_iadd hC (pc := 196) (v := ((rF s13 0 29) + 1)) dX14_readText_196 rfl ?_
                      obtain ⟨b63, h⟩ := h
                      refine y_bald hC (pc := 197) (rAr_m rfl) dX14_readText_197 b63 (v := (rA s13 1026 ((rF s13 0 29) + 1))) rfl (kk := ?_)
                      refine z_aload_n hC (pc := 198) 1 dX14_readText_198 rfl rfl ?_
                      obtain ⟨p64, h⟩ := h
                      refine y_callVi hC (pc := 199) (As := []) (kX14_place l G κ s13  Ws13  p64) dmX14_place zf14 rOb_0 dX14_readText_199 zw3103 rfl rfl (Nat.le_of_ble_eq_true rfl) (Nat.le_of_ble_eq_true rfl) (by omega) (by omega) (Nat.le_of_ble_eq_true rfl) (kk := fun v199 s199 hv199 Ws199 qs199 => ?_)
                      obtain ⟨es199, qs199⟩ := qs199
                      have es199 := es199.symm
                      subst es199
                      have h := h v199 hv199 qs199
                      obtain ⟨p65, h⟩ := h
                      refine y_callVv hC (pc := 202) (As := [iv 1, iv (rA s13 1026 ((rF s13 0 29) + 1)), iv v199]) (kX14_note_t l G κ s13 1 (rA s13 1026 ((rF s13 0 29) + 1)) v199 gg Ws13 (r_lit rfl) (Ws13.a _ _) hv199 p65) dmX14_note zf14 rOb_0 dX14_readText_202 zw3111 rfl rfl (Nat.le_of_ble_eq_true rfl) (Nat.le_of_ble_eq_true rfl) (by omega) (by omega) (Nat.le_of_ble_eq_true rfl) (kk := fun s202 Ws202 qs202 => ?_)
                      have h := h s202 Ws202 (rNMp.keep qs202.1 rfl rfl rfl rfl rfl) (TPRp.keep qs202.1 rfl rfl rfl) (PNp.keep qs202.1 rfl rfl rfl rfl rfl) (CCp.keep qs202.1 rfl rfl rfl rfl rfl rfl rfl) (qs202.1.R rfl) (qs202.1.F rfl) (qs202.1.F rfl) (qs202.1.F rfl) (qs202.1.F rfl) (qs202.1.F rfl) (qs202.1.F rfl) (qs202.1.F rfl) (qs202.1.F rfl) (qs202.1.F rfl) (qs202.1.F rfl) (qs202.1.F rfl) (fun i => qs202.1.A (f := 26) (by decide) rfl) (fun i => qs202.1.A (f := 40) (by decide) rfl) (qs202.1.FG g0 rfl) (qs202.1.FG g0 rfl) (qs202.1.FG g0 rfl) (qs202.1.FG g0 rfl) (qs202.1.FG g0 rfl) (fun i => qs202.1.AG (f := 10) g0 (by decide) rfl) (fun i => qs202.1.AG (f := 11) g0 (by decide) rfl) (fun i => qs202.1.AG (f := 31) g0 (by decide) rfl) (fun i => qs202.1.AG (f := 33) g0 (by decide) rfl) (fun i => qs202.1.AG (f := 34) g0 (by decide) rfl) (fun i => qs202.1.AG (f := 35) g0 (by decide) rfl) (fz_keep qs202.1 rfl) qs202.2
                      refine z_aload_n hC (pc := 205) 1 dX14_readText_205 rfl rfl ?_
                      refine z_dup hC (pc := 206) dX14_readText_206 rfl ?_
                      refine y_get hC (pc := 207) zf14 rOb_0 29 (v := iv (rF s13 0 29)) dX14_readText_207 zw2496 (rv_i (Or.inl rfl) ((qs202.1.F rfl).trans rfl)) (kk := ?_)
                      refine z_iconst hC (pc := 210) (v := Int32.ofInt 2) dX14_readText_210 (by decide) ?_
                      refine y_iadd hC (pc := 211) (v := ((rF s13 0 29) + 2)) dX14_readText_211 rfl ?_
                      obtain ⟨r66, h⟩ := h
                      refine y_putI hC (pc := 212) zf14 rOb_0 29 (x := ((rF s13 0 29) + 2)) dX14_readText_212 zw2496 (Or.inl rfl) rfl rfl (kk := ?_)
                      have W67 := Ws202.sF (q := 0) (f := 29) (x := ((rF s13 0 29) + 2)) r66
                      refine z_goto hC (pc := 215) 250 dX14_readText_215 (by decide) ?_
                      refine z_goto hC (pc := 250) 13 dX14_readText_250 (by decide) ?_
                      refine z_lvs [1, 2, 3, 4, 5] rfl ?_
                      obtain ⟨hI, hm⟩ := h
                      exact ih13 (sF s202 0 29 ((rF s13 0 29) + 2)) y13_2 y13_3 y13_4 W67 hy13_2 hy13_3 hy13_4 (rKeep.tr (rKeep.tr (rKeep.tr rKeep.rf kJ rfl rfl rfl rfl rfl) qs202.1 rfl rfl rfl rfl rfl) (rKeep.sF0 (f := 29)) rfl rfl rfl rfl rfl) hI (by omega)
                    · have h := hF c
                      refine z_aload_n hC (pc := 153) 1 dX14_readText_153 rfl rfl ?_
                      refine y_get hC (pc := 154) zf14 rOb_0 26 (v := .ref (κ 1026)) dX14_readText_154 zw2493 (rv_c rfl) (kk := ?_)
                      refine z_aload_n hC (pc := 157) 1 dX14_readText_157 rfl rfl ?_
                      refine y_get hC (pc := 158) zf14 rOb_0 29 (v := iv (rF s13 0 29)) dX14_readText_158 zw2496 (rv_i (Or.inl rfl) rfl) (kk := ?_)
                      refine z_iconst hC (pc := 161) (v := Int32.ofInt 1) dX14_readText_161 (by decide) ?_
                      refine y_iadd hC (pc := 162) (v := ((rF s13 0 29) + 1)) dX14_readText_162 rfl ?_
                      obtain ⟨b68, h⟩ := h
                      refine y_bald hC (pc := 163) (rAr_m rfl) dX14_readText_163 b68 (v := (rA s13 1026 ((rF s13 0 29) + 1))) rfl (kk := ?_)
                      refine z_bipush hC (pc := 164) (v := Int32.ofInt 92) dX14_readText_164 (by decide) ?_
                      obtain ⟨hT, hF⟩ := h
                      refine y_icmp_eq hC (pc := 166) 185 (Ws13.a _ _) (r_lit rfl) dX14_readText_166 (by decide) (fun c => ?_) (fun c => ?_)
                      · have h := hT c
                        refine z_aload_n hC (pc := 185) 1 dX14_readText_185 rfl rfl ?_
                        refine z_iconst hC (pc := 186) (v := Int32.ofInt 1) dX14_readText_186 (by decide) ?_
                        refine z_aload_n hC (pc := 187) 1 dX14_readText_187 rfl rfl ?_
                        refine y_get hC (pc := 188) zf14 rOb_0 26 (v := .ref (κ 1026)) dX14_readText_188 zw2493 (rv_c rfl) (kk := ?_)
                        refine z_aload_n hC (pc := 191) 1 dX14_readText_191 rfl rfl ?_
                        refine y_get hC (pc := 192) zf14 rOb_0 29 (v := iv (rF s13 0 29)) dX14_readText_192 zw2496 (rv_i (Or.inl rfl) rfl) (kk := ?_)
                        refine z_iconst hC (pc := 195) (v := Int32.ofInt 1) dX14_readText_195 (by decide) ?_
                        refine y_iadd hC (pc := 196) (v := ((rF s13 0 29) + 1)) dX14_readText_196 rfl ?_
                        obtain ⟨b69, h⟩ := h
                        refine y_bald hC (pc := 197) (rAr_m rfl) dX14_readText_197 b69 (v := (rA s13 1026 ((rF s13 0 29) + 1))) rfl (kk := ?_)
                        refine z_aload_n hC (pc := 198) 1 dX14_readText_198 rfl rfl ?_
                        obtain ⟨p70, h⟩ := h
                        refine y_callVi hC (pc := 199) (As := []) (kX14_place l G κ s13  Ws13  p70) dmX14_place zf14 rOb_0 dX14_readText_199 zw3103 rfl rfl (Nat.le_of_ble_eq_true rfl) (Nat.le_of_ble_eq_true rfl) (by omega) (by omega) (Nat.le_of_ble_eq_true rfl) (kk := fun v199 s199 hv199 Ws199 qs199 => ?_)
                        obtain ⟨es199, qs199⟩ := qs199
                        have es199 := es199.symm
                        subst es199
                        have h := h v199 hv199 qs199
                        obtain ⟨p71, h⟩ := h
                        refine y_callVv hC (pc := 202) (As := [iv 1, iv (rA s13 1026 ((rF s13 0 29) + 1)), iv v199]) (kX14_note_t l G κ s13 1 (rA s13 1026 ((rF s13 0 29) + 1)) v199 gg Ws13 (r_lit rfl) (Ws13.a _ _) hv199 p71) dmX14_note zf14 rOb_0 dX14_readText_202 zw3111 rfl rfl (Nat.le_of_ble_eq_true rfl) (Nat.le_of_ble_eq_true rfl) (by omega) (by omega) (Nat.le_of_ble_eq_true rfl) (kk := fun s202 Ws202 qs202 => ?_)
                        have h := h s202 Ws202 (rNMp.keep qs202.1 rfl rfl rfl rfl rfl) (TPRp.keep qs202.1 rfl rfl rfl) (PNp.keep qs202.1 rfl rfl rfl rfl rfl) (CCp.keep qs202.1 rfl rfl rfl rfl rfl rfl rfl) (qs202.1.R rfl) (qs202.1.F rfl) (qs202.1.F rfl) (qs202.1.F rfl) (qs202.1.F rfl) (qs202.1.F rfl) (qs202.1.F rfl) (qs202.1.F rfl) (qs202.1.F rfl) (qs202.1.F rfl) (qs202.1.F rfl) (qs202.1.F rfl) (fun i => qs202.1.A (f := 26) (by decide) rfl) (fun i => qs202.1.A (f := 40) (by decide) rfl) (qs202.1.FG g0 rfl) (qs202.1.FG g0 rfl) (qs202.1.FG g0 rfl) (qs202.1.FG g0 rfl) (qs202.1.FG g0 rfl) (fun i => qs202.1.AG (f := 10) g0 (by decide) rfl) (fun i => qs202.1.AG (f := 11) g0 (by decide) rfl) (fun i => qs202.1.AG (f := 31) g0 (by decide) rfl) (fun i => qs202.1.AG (f := 33) g0 (by decide) rfl) (fun i => qs202.1.AG (f := 34) g0 (by decide) rfl) (fun i => qs202.1.AG (f := 35) g0 (by decide) rfl) (fz_keep qs202.1 rfl) qs202.2
                        refine z_aload_n hC (pc := 205) 1 dX14_readText_205 rfl rfl ?_
                        refine z_dup hC (pc := 206) dX14_readText_206 rfl ?_
                        refine y_get hC (pc := 207) zf14 rOb_0 29 (v := iv (rF s13 0 29)) dX14_readText_207 zw2496 (rv_i (Or.inl rfl) ((qs202.1.F rfl).trans rfl)) (kk := ?_)
                        refine z_iconst hC (pc := 210) (v := Int32.ofInt 2) dX14_readText_210 (by decide) ?_
                        refine y_iadd hC (pc := 211) (v := ((rF s13 0 29) + 2)) dX14_readText_211 rfl ?_
                        obtain ⟨r72, h⟩ := h
                        refine y_putI hC (pc := 212) zf14 rOb_0 29 (x := ((rF s13 0 29) + 2)) dX14_readText_212 zw2496 (Or.inl rfl) rfl rfl (kk := ?_)
                        have W73 := Ws202.sF (q := 0) (f := 29) (x := ((rF s13 0 29) + 2)) r72
                        refine z_goto hC (pc := 215) 250 dX14_readText_215 (by decide) ?_
                        refine z_goto hC (pc := 250) 13 dX14_readText_250 (by decide) ?_
                        refine z_lvs [1, 2, 3, 4, 5] rfl ?_
                        obtain ⟨hI, hm⟩ := h
                        exact ih13 (sF s202 0 29 ((rF s13 0 29) + 2)) y13_2 y13_3 y13_4 W73 hy13_2 hy13_3 hy13_4 (rKeep.tr (rKeep.tr (rKeep.tr rKeep.rf kJ rfl rfl rfl rfl rfl) qs202.1 rfl rfl rfl rfl rfl) (rKeep.sF0 (f := 29)) rfl rfl rfl rfl rfl) hI (by omega)
                      · have h := hF c
                        refine z_aload_n hC (pc := 169) 1 dX14_readText_169 rfl rfl ?_
                        refine y_get hC (pc := 170) zf14 rOb_0 26 (v := .ref (κ 1026)) dX14_readText_170 zw2493 (rv_c rfl) (kk := ?_)
                        refine z_aload_n hC (pc := 173) 1 dX14_readText_173 rfl rfl ?_
                        refine y_get hC (pc := 174) zf14 rOb_0 29 (v := iv (rF s13 0 29)) dX14_readText_174 zw2496 (rv_i (Or.inl rfl) rfl) (kk := ?_)
                        refine z_iconst hC (pc := 177) (v := Int32.ofInt 1) dX14_readText_177 (by decide) ?_
                        refine y_iadd hC (pc := 178) (v := ((rF s13 0 29) + 1)) dX14_readText_178 rfl ?_
                        obtain ⟨b74, h⟩ := h
                        refine y_bald hC (pc := 179) (rAr_m rfl) dX14_readText_179 b74 (v := (rA s13 1026 ((rF s13 0 29) + 1))) rfl (kk := ?_)
                        refine z_bipush hC (pc := 180) (v := Int32.ofInt 125) dX14_readText_180 (by decide) ?_
                        obtain ⟨hT, hF⟩ := h
                        refine y_icmp_ne hC (pc := 182) 218 (Ws13.a _ _) (r_lit rfl) dX14_readText_182 (by decide) (fun c => ?_) (fun c => ?_)
                        · have h := hT c
                          refine z_aload_n hC (pc := 218) 1 dX14_readText_218 rfl rfl ?_
                          refine z_iload hC (pc := 219) 0 dX14_readText_219 rfl ?_
                          refine z_bipush hC (pc := 221) (v := Int32.ofInt 10) dX14_readText_221 (by decide) ?_
                          obtain ⟨hT, hF⟩ := h
                          refine y_icmp_ne hC (pc := 223) 230 hv26 (r_lit rfl) dX14_readText_223 (by decide) (fun c => ?_) (fun c => ?_)
                          · have h := hT c
                            refine z_iconst hC (pc := 230) (v := Int32.ofInt 1) dX14_readText_230 (by decide) ?_
                            refine z_iload hC (pc := 231) 0 dX14_readText_231 rfl ?_
                            refine z_aload_n hC (pc := 233) 1 dX14_readText_233 rfl rfl ?_
                            obtain ⟨p75, h⟩ := h
                            refine y_callVi hC (pc := 234) (As := []) (kX14_place l G κ s13  Ws13  p75) dmX14_place zf14 rOb_0 dX14_readText_234 zw3103 rfl rfl (Nat.le_of_ble_eq_true rfl) (Nat.le_of_ble_eq_true rfl) (by omega) (by omega) (Nat.le_of_ble_eq_true rfl) (kk := fun v234 s234 hv234 Ws234 qs234 => ?_)
                            obtain ⟨es234, qs234⟩ := qs234
                            have es234 := es234.symm
                            subst es234
                            have h := h v234 hv234 qs234
                            obtain ⟨p76, h⟩ := h
                            refine y_callVv hC (pc := 237) (As := [iv 1, iv v26, iv v234]) (kX14_note_t l G κ s13 1 v26 v234 gg Ws13 (r_lit rfl) hv26 hv234 p76) dmX14_note zf14 rOb_0 dX14_readText_237 zw3111 rfl rfl (Nat.le_of_ble_eq_true rfl) (Nat.le_of_ble_eq_true rfl) (by omega) (by omega) (Nat.le_of_ble_eq_true rfl) (kk := fun s237 Ws237 qs237 => ?_)
                            have h := h s237 Ws237 (rNMp.keep qs237.1 rfl rfl rfl rfl rfl) (TPRp.keep qs237.1 rfl rfl rfl) (PNp.keep qs237.1 rfl rfl rfl rfl rfl) (CCp.keep qs237.1 rfl rfl rfl rfl rfl rfl rfl) (qs237.1.R rfl) (qs237.1.F rfl) (qs237.1.F rfl) (qs237.1.F rfl) (qs237.1.F rfl) (qs237.1.F rfl) (qs237.1.F rfl) (qs237.1.F rfl) (qs237.1.F rfl) (qs237.1.F rfl) (qs237.1.F rfl) (qs237.1.F rfl) (fun i => qs237.1.A (f := 26) (by decide) rfl) (fun i => qs237.1.A (f := 40) (by decide) rfl) (qs237.1.FG g0 rfl) (qs237.1.FG g0 rfl) (qs237.1.FG g0 rfl) (qs237.1.FG g0 rfl) (qs237.1.FG g0 rfl) (fun i => qs237.1.AG (f := 10) g0 (by decide) rfl) (fun i => qs237.1.AG (f := 11) g0 (by decide) rfl) (fun i => qs237.1.AG (f := 31) g0 (by decide) rfl) (fun i => qs237.1.AG (f := 33) g0 (by decide) rfl) (fun i => qs237.1.AG (f := 34) g0 (by decide) rfl) (fun i => qs237.1.AG (f := 35) g0 (by decide) rfl) (fz_keep qs237.1 rfl) qs237.2
                            refine z_aload_n hC (pc := 240) 1 dX14_readText_240 rfl rfl ?_
                            refine z_dup hC (pc := 241) dX14_readText_241 rfl ?_
                            refine y_get hC (pc := 242) zf14 rOb_0 29 (v := iv (rF s13 0 29)) dX14_readText_242 zw2496 (rv_i (Or.inl rfl) ((qs237.1.F rfl).trans rfl)) (kk := ?_)
                            refine z_iconst hC (pc := 245) (v := Int32.ofInt 1) dX14_readText_245 (by decide) ?_
                            refine y_iadd hC (pc := 246) (v := ((rF s13 0 29) + 1)) dX14_readText_246 rfl ?_
                            refine y_putI hC (pc := 247) zf14 rOb_0 29 (x := ((rF s13 0 29) + 1)) dX14_readText_247 zw2496 (Or.inl rfl) rfl rfl (kk := ?_)
                            have W77 := Ws237.sF (q := 0) (f := 29) (x := ((rF s13 0 29) + 1)) r55
                            refine z_goto hC (pc := 250) 13 dX14_readText_250 (by decide) ?_
                            refine z_lvs [1, 2, 3, 4, 5] rfl ?_
                            obtain ⟨hI, hm⟩ := h
                            exact ih13 (sF s237 0 29 ((rF s13 0 29) + 1)) y13_2 y13_3 y13_4 W77 hy13_2 hy13_3 hy13_4 (rKeep.tr (rKeep.tr (rKeep.tr rKeep.rf kJ rfl rfl rfl rfl rfl) qs237.1 rfl rfl rfl rfl rfl) (rKeep.sF0 (f := 29)) rfl rfl rfl rfl rfl) hI (by omega)
                          · have h := hF c
                            refine z_iconst hC (pc := 226) (v := Int32.ofInt 2) dX14_readText_226 (by decide) ?_
                            refine z_goto hC (pc := 227) 231 dX14_readText_227 (by decide) ?_
                            refine z_iload hC (pc := 231) 0 dX14_readText_231 rfl ?_
                            refine z_aload_n hC (pc := 233) 1 dX14_readText_233 rfl rfl ?_
                            obtain ⟨p78, h⟩ := h
                            refine y_callVi hC (pc := 234) (As := []) (kX14_place l G κ s13  Ws13  p78) dmX14_place zf14 rOb_0 dX14_readText_234 zw3103 rfl rfl (Nat.le_of_ble_eq_true rfl) (Nat.le_of_ble_eq_true rfl) (by omega) (by omega) (Nat.le_of_ble_eq_true rfl) (kk := fun v234 s234 hv234 Ws234 qs234 => ?_)
                            obtain ⟨es234, qs234⟩ := qs234
                            have es234 := es234.symm
                            subst es234
                            have h := h v234 hv234 qs234
                            obtain ⟨p79, h⟩ := h
                            refine y_callVv hC (pc := 237) (As := [iv 2, iv v26, iv v234]) (kX14_note_t l G κ s13 2 v26 v234 gg Ws13 (r_lit rfl) hv26 hv234 p79) dmX14_note zf14 rOb_0 dX14_readText_237 zw3111 rfl rfl (Nat.le_of_ble_eq_true rfl) (Nat.le_of_ble_eq_true rfl) (by omega) (by omega) (Nat.le_of_ble_eq_true rfl) (kk := fun s237 Ws237 qs237 => ?_)
                            have h := h s237 Ws237 (rNMp.keep qs237.1 rfl rfl rfl rfl rfl) (TPRp.keep qs237.1 rfl rfl rfl) (PNp.keep qs237.1 rfl rfl rfl rfl rfl) (CCp.keep qs237.1 rfl rfl rfl rfl rfl rfl rfl) (qs237.1.R rfl) (qs237.1.F rfl) (qs237.1.F rfl) (qs237.1.F rfl) (qs237.1.F rfl) (qs237.1.F rfl) (qs237.1.F rfl) (qs237.1.F rfl) (qs237.1.F rfl) (qs237.1.F rfl) (qs237.1.F rfl) (qs237.1.F rfl) (fun i => qs237.1.A (f := 26) (by decide) rfl) (fun i => qs237.1.A (f := 40) (by decide) rfl) (qs237.1.FG g0 rfl) (qs237.1.FG g0 rfl) (qs237.1.FG g0 rfl) (qs237.1.FG g0 rfl) (qs237.1.FG g0 rfl) (fun i => qs237.1.AG (f := 10) g0 (by decide) rfl) (fun i => qs237.1.AG (f := 11) g0 (by decide) rfl) (fun i => qs237.1.AG (f := 31) g0 (by decide) rfl) (fun i => qs237.1.AG (f := 33) g0 (by decide) rfl) (fun i => qs237.1.AG (f := 34) g0 (by decide) rfl) (fun i => qs237.1.AG (f := 35) g0 (by decide) rfl) (fz_keep qs237.1 rfl) qs237.2
                            refine z_aload_n hC (pc := 240) 1 dX14_readText_240 rfl rfl ?_
                            refine z_dup hC (pc := 241) dX14_readText_241 rfl ?_
                            refine y_get hC (pc := 242) zf14 rOb_0 29 (v := iv (rF s13 0 29)) dX14_readText_242 zw2496 (rv_i (Or.inl rfl) ((qs237.1.F rfl).trans rfl)) (kk := ?_)
                            refine z_iconst hC (pc := 245) (v := Int32.ofInt 1) dX14_readText_245 (by decide) ?_
                            refine y_iadd hC (pc := 246) (v := ((rF s13 0 29) + 1)) dX14_readText_246 rfl ?_
                            refine y_putI hC (pc := 247) zf14 rOb_0 29 (x := ((rF s13 0 29) + 1)) dX14_readText_247 zw2496 (Or.inl rfl) rfl rfl (kk := ?_)
                            have W80 := Ws237.sF (q := 0) (f := 29) (x := ((rF s13 0 29) + 1)) r55
                            refine z_goto hC (pc := 250) 13 dX14_readText_250 (by decide) ?_
                            refine z_lvs [1, 2, 3, 4, 5] rfl ?_
                            obtain ⟨hI, hm⟩ := h
                            exact ih13 (sF s237 0 29 ((rF s13 0 29) + 1)) y13_2 y13_3 y13_4 W80 hy13_2 hy13_3 hy13_4 (rKeep.tr (rKeep.tr (rKeep.tr rKeep.rf kJ rfl rfl rfl rfl rfl) qs237.1 rfl rfl rfl rfl rfl) (rKeep.sF0 (f := 29)) rfl rfl rfl rfl rfl) hI (by omega)
                        · have h := hF c
                          refine z_aload_n hC (pc := 185) 1 dX14_readText_185 rfl rfl ?_
                          refine z_iconst hC (pc := 186) (v := Int32.ofInt 1) dX14_readText_186 (by decide) ?_
                          refine z_aload_n hC (pc := 187) 1 dX14_readText_187 rfl rfl ?_
                          refine y_get hC (pc := 188) zf14 rOb_0 26 (v := .ref (κ 1026)) dX14_readText_188 zw2493 (rv_c rfl) (kk := ?_)
                          refine z_aload_n hC (pc := 191) 1 dX14_readText_191 rfl rfl ?_
                          refine y_get hC (pc := 192) zf14 rOb_0 29 (v := iv (rF s13 0 29)) dX14_readText_192 zw2496 (rv_i (Or.inl rfl) rfl) (kk := ?_)
                          refine z_iconst hC (pc := 195) (v := Int32.ofInt 1) dX14_readText_195 (by decide) ?_
                          refine y_iadd hC (pc := 196) (v := ((rF s13 0 29) + 1)) dX14_readText_196 rfl ?_
                          obtain ⟨b81, h⟩ := h
                          refine y_bald hC (pc := 197) (rAr_m rfl) dX14_readText_197 b81 (v := (rA s13 1026 ((rF s13 0 29) + 1))) rfl (kk := ?_)
                          refine z_aload_n hC (pc := 198) 1 dX14_readText_198 rfl rfl ?_
                          obtain ⟨p82, h⟩ := h
                          refine y_callVi hC (pc := 199) (As := []) (kX14_place l G κ s13  Ws13  p82) dmX14_place zf14 rOb_0 dX14_readText_199 zw3103 rfl rfl (Nat.le_of_ble_eq_true rfl) (Nat.le_of_ble_eq_true rfl) (by omega) (by omega) (Nat.le_of_ble_eq_true rfl) (kk := fun v199 s199 hv199 Ws199 qs199 => ?_)
                          obtain ⟨es199, qs199⟩ := qs199
                          have es199 := es199.symm
                          subst es199
                          have h := h v199 hv199 qs199
                          obtain ⟨p83, h⟩ := h
                          refine y_callVv hC (pc := 202) (As := [iv 1, iv (rA s13 1026 ((rF s13 0 29) + 1)), iv v199]) (kX14_note_t l G κ s13 1 (rA s13 1026 ((rF s13 0 29) + 1)) v199 gg Ws13 (r_lit rfl) (Ws13.a _ _) hv199 p83) dmX14_note zf14 rOb_0 dX14_readText_202 zw3111 rfl rfl (Nat.le_of_ble_eq_true rfl) (Nat.le_of_ble_eq_true rfl) (by omega) (by omega) (Nat.le_of_ble_eq_true rfl) (kk := fun s202 Ws202 qs202 => ?_)
                          have h := h s202 Ws202 (rNMp.keep qs202.1 rfl rfl rfl rfl rfl) (TPRp.keep qs202.1 rfl rfl rfl) (PNp.keep qs202.1 rfl rfl rfl rfl rfl) (CCp.keep qs202.1 rfl rfl rfl rfl rfl rfl rfl) (qs202.1.R rfl) (qs202.1.F rfl) (qs202.1.F rfl) (qs202.1.F rfl) (qs202.1.F rfl) (qs202.1.F rfl) (qs202.1.F rfl) (qs202.1.F rfl) (qs202.1.F rfl) (qs202.1.F rfl) (qs202.1.F rfl) (qs202.1.F rfl) (fun i => qs202.1.A (f := 26) (by decide) rfl) (fun i => qs202.1.A (f := 40) (by decide) rfl) (qs202.1.FG g0 rfl) (qs202.1.FG g0 rfl) (qs202.1.FG g0 rfl) (qs202.1.FG g0 rfl) (qs202.1.FG g0 rfl) (fun i => qs202.1.AG (f := 10) g0 (by decide) rfl) (fun i => qs202.1.AG (f := 11) g0 (by decide) rfl) (fun i => qs202.1.AG (f := 31) g0 (by decide) rfl) (fun i => qs202.1.AG (f := 33) g0 (by decide) rfl) (fun i => qs202.1.AG (f := 34) g0 (by decide) rfl) (fun i => qs202.1.AG (f := 35) g0 (by decide) rfl) (fz_keep qs202.1 rfl) qs202.2
                          refine z_aload_n hC (pc := 205) 1 dX14_readText_205 rfl rfl ?_
                          refine z_dup hC (pc := 206) dX14_readText_206 rfl ?_
                          refine y_get hC (pc := 207) zf14 rOb_0 29 (v := iv (rF s13 0 29)) dX14_readText_207 zw2496 (rv_i (Or.inl rfl) ((qs202.1.F rfl).trans rfl)) (kk := ?_)
                          refine z_iconst hC (pc := 210) (v := Int32.ofInt 2) dX14_readText_210 (by decide) ?_
                          refine y_iadd hC (pc := 211) (v := ((rF s13 0 29) + 2)) dX14_readText_211 rfl ?_
                          obtain ⟨r84, h⟩ := h
                          refine y_putI hC (pc := 212) zf14 rOb_0 29 (x := ((rF s13 0 29) + 2)) dX14_readText_212 zw2496 (Or.inl rfl) rfl rfl (kk := ?_)
                          have W85 := Ws202.sF (q := 0) (f := 29) (x := ((rF s13 0 29) + 2)) r84
                          refine z_goto hC (pc := 215) 250 dX14_readText_215 (by decide) ?_
                          refine z_goto hC (pc := 250) 13 dX14_readText_250 (by decide) ?_
                          refine z_lvs [1, 2, 3, 4, 5] rfl ?_
                          obtain ⟨hI, hm⟩ := h
                          exact ih13 (sF s202 0 29 ((rF s13 0 29) + 2)) y13_2 y13_3 y13_4 W85 hy13_2 hy13_3 hy13_4 (rKeep.tr (rKeep.tr (rKeep.tr rKeep.rf kJ rfl rfl rfl rfl rfl) qs202.1 rfl rfl rfl rfl rfl) (rKeep.sF0 (f := 29)) rfl rfl rfl rfl rfl) hI (by omega)
              · have h := hF c
                refine z_aload_n hC (pc := 107) 1 dX14_readText_107 rfl rfl ?_
                refine z_iload_n hC (pc := 108) 4 dX14_readText_108 rfl rfl ?_
                obtain ⟨g86, h⟩ := h
                obtain ⟨L87, h⟩ := h
                obtain ⟨p88, h⟩ := h
                obtain ⟨p89, h⟩ := h
                refine y_callVv hC (pc := 109) (As := [iv y13_3]) (qX14_readTag ih s13 y13_3 gg g86 L87 Ws13 hy13_3 p88 p89) dmX14_readTag zf14 rOb_0 dX14_readText_109 zw3107 rfl rfl (Nat.le_of_ble_eq_true rfl) (Nat.le_of_ble_eq_true rfl) (by omega) (by omega) (Nat.le_of_ble_eq_true rfl) (kk := fun s109 Ws109 qs109 => ?_)
                have h := h s109 Ws109 (TPRp.keep qs109.1 rfl rfl rfl) (CCp.keep qs109.1 rfl rfl rfl rfl rfl rfl rfl) (qs109.1.R rfl) (qs109.1.F rfl) (qs109.1.F rfl) (qs109.1.F rfl) (qs109.1.F rfl) (qs109.1.F rfl) (qs109.1.F rfl) (fun i => qs109.1.A (f := 26) (by decide) rfl) qs109.2
                refine z_goto hC (pc := 112) 250 dX14_readText_112 (by decide) ?_
                refine z_goto hC (pc := 250) 13 dX14_readText_250 (by decide) ?_
                refine z_lvs [1, 2, 3, 4, 5] rfl ?_
                obtain ⟨hI, hm⟩ := h
                exact ih13 s109 y13_2 y13_3 y13_4 Ws109 hy13_2 hy13_3 hy13_4 (rKeep.tr (rKeep.tr rKeep.rf kJ rfl rfl rfl rfl rfl) qs109.1 rfl rfl rfl rfl rfl) hI (by omega)
            · have h := hF c
              refine z_iload hC (pc := 40) 0 dX14_readText_40 rfl ?_
              refine z_bipush hC (pc := 42) (v := Int32.ofInt 125) dX14_readText_42 (by decide) ?_
              obtain ⟨hT, hF⟩ := h
              refine y_icmp_ne hC (pc := 44) 98 hv26 (r_lit rfl) dX14_readText_44 (by decide) (fun c => ?_) (fun c => ?_)
              · have h := hT c
                refine z_iload hC (pc := 98) 0 dX14_readText_98 rfl ?_
                refine z_aload_n hC (pc := 100) 1 dX14_readText_100 rfl rfl ?_
                refine y_get hC (pc := 101) zf14 rOb_0 18 (v := iv (rF s13 0 18)) dX14_readText_101 zw2485 (rv_i (Or.inl rfl) rfl) (kk := ?_)
                have h := h (Ws13.f _ _)
                obtain ⟨hT, hF⟩ := h
                refine y_icmp_ne hC (pc := 104) 115 hv26 (Ws13.f _ _) dX14_readText_104 (by decide) (fun c => ?_) (fun c => ?_)
                · have h := hT c
                  refine z_iload hC (pc := 115) 0 dX14_readText_115 rfl ?_
                  refine z_bipush hC (pc := 117) (v := Int32.ofInt 92) dX14_readText_117 (by decide) ?_
                  obtain ⟨hT, hF⟩ := h
                  refine y_icmp_ne hC (pc := 119) 218 hv26 (r_lit rfl) dX14_readText_119 (by decide) (fun c => ?_) (fun c => ?_)
                  · have h := hT c
                    refine z_aload_n hC (pc := 218) 1 dX14_readText_218 rfl rfl ?_
                    refine z_iload hC (pc := 219) 0 dX14_readText_219 rfl ?_
                    refine z_bipush hC (pc := 221) (v := Int32.ofInt 10) dX14_readText_221 (by decide) ?_
                    obtain ⟨hT, hF⟩ := h
                    refine y_icmp_ne hC (pc := 223) 230 hv26 (r_lit rfl) dX14_readText_223 (by decide) (fun c => ?_) (fun c => ?_)
                    · have h := hT c
                      refine z_iconst hC (pc := 230) (v := Int32.ofInt 1) dX14_readText_230 (by decide) ?_
                      refine z_iload hC (pc := 231) 0 dX14_readText_231 rfl ?_
                      refine z_aload_n hC (pc := 233) 1 dX14_readText_233 rfl rfl ?_
                      obtain ⟨p90, h⟩ := h
                      refine y_callVi hC (pc := 234) (As := []) (kX14_place l G κ s13  Ws13  p90) dmX14_place zf14 rOb_0 dX14_readText_234 zw3103 rfl rfl (Nat.le_of_ble_eq_true rfl) (Nat.le_of_ble_eq_true rfl) (by omega) (by omega) (Nat.le_of_ble_eq_true rfl) (kk := fun v234 s234 hv234 Ws234 qs234 => ?_)
                      obtain ⟨es234, qs234⟩ := qs234
                      have es234 := es234.symm
                      subst es234
                      have h := h v234 hv234 qs234
                      obtain ⟨p91, h⟩ := h
                      refine y_callVv hC (pc := 237) (As := [iv 1, iv v26, iv v234]) (kX14_note_t l G κ s13 1 v26 v234 gg Ws13 (r_lit rfl) hv26 hv234 p91) dmX14_note zf14 rOb_0 dX14_readText_237 zw3111 rfl rfl (Nat.le_of_ble_eq_true rfl) (Nat.le_of_ble_eq_true rfl) (by omega) (by omega) (Nat.le_of_ble_eq_true rfl) (kk := fun s237 Ws237 qs237 => ?_)
                      have h := h s237 Ws237 (rNMp.keep qs237.1 rfl rfl rfl rfl rfl) (TPRp.keep qs237.1 rfl rfl rfl) (PNp.keep qs237.1 rfl rfl rfl rfl rfl) (CCp.keep qs237.1 rfl rfl rfl rfl rfl rfl rfl) (qs237.1.R rfl) (qs237.1.F rfl) (qs237.1.F rfl) (qs237.1.F rfl) (qs237.1.F rfl) (qs237.1.F rfl) (qs237.1.F rfl) (qs237.1.F rfl) (qs237.1.F rfl) (qs237.1.F rfl) (qs237.1.F rfl) (qs237.1.F rfl) (fun i => qs237.1.A (f := 26) (by decide) rfl) (fun i => qs237.1.A (f := 40) (by decide) rfl) (qs237.1.FG g0 rfl) (qs237.1.FG g0 rfl) (qs237.1.FG g0 rfl) (qs237.1.FG g0 rfl) (qs237.1.FG g0 rfl) (fun i => qs237.1.AG (f := 10) g0 (by decide) rfl) (fun i => qs237.1.AG (f := 11) g0 (by decide) rfl) (fun i => qs237.1.AG (f := 31) g0 (by decide) rfl) (fun i => qs237.1.AG (f := 33) g0 (by decide) rfl) (fun i => qs237.1.AG (f := 34) g0 (by decide) rfl) (fun i => qs237.1.AG (f := 35) g0 (by decide) rfl) (fz_keep qs237.1 rfl) qs237.2
                      refine z_aload_n hC (pc := 240) 1 dX14_readText_240 rfl rfl ?_
                      refine z_dup hC (pc := 241) dX14_readText_241 rfl ?_
                      refine y_get hC (pc := 242) zf14 rOb_0 29 (v := iv (rF s13 0 29)) dX14_readText_242 zw2496 (rv_i (Or.inl rfl) ((qs237.1.F rfl).trans rfl)) (kk := ?_)
                      have h := h (Ws13.f _ _)
                      refine z_iconst hC (pc := 245) (v := Int32.ofInt 1) dX14_readText_245 (by decide) ?_
                      refine y_iadd hC (pc := 246) (v := ((rF s13 0 29) + 1)) dX14_readText_246 rfl ?_
                      obtain ⟨r92, h⟩ := h
                      refine y_putI hC (pc := 247) zf14 rOb_0 29 (x := ((rF s13 0 29) + 1)) dX14_readText_247 zw2496 (Or.inl rfl) rfl rfl (kk := ?_)
                      have W93 := Ws237.sF (q := 0) (f := 29) (x := ((rF s13 0 29) + 1)) r92
                      refine z_goto hC (pc := 250) 13 dX14_readText_250 (by decide) ?_
                      refine z_lvs [1, 2, 3, 4, 5] rfl ?_
                      obtain ⟨hI, hm⟩ := h
                      exact ih13 (sF s237 0 29 ((rF s13 0 29) + 1)) y13_2 y13_3 y13_4 W93 hy13_2 hy13_3 hy13_4 (rKeep.tr (rKeep.tr (rKeep.tr rKeep.rf kJ rfl rfl rfl rfl rfl) qs237.1 rfl rfl rfl rfl rfl) (rKeep.sF0 (f := 29)) rfl rfl rfl rfl rfl) hI (by omega)
                    · have h := hF c
                      refine z_iconst hC (pc := 226) (v := Int32.ofInt 2) dX14_readText_226 (by decide) ?_
                      refine z_goto hC (pc := 227) 231 dX14_readText_227 (by decide) ?_
                      refine z_iload hC (pc := 231) 0 dX14_readText_231 rfl ?_
                      refine z_aload_n hC (pc := 233) 1 dX14_readText_233 rfl rfl ?_
                      obtain ⟨p94, h⟩ := h
                      refine y_callVi hC (pc := 234) (As := []) (kX14_place l G κ s13  Ws13  p94) dmX14_place zf14 rOb_0 dX14_readText_234 zw3103 rfl rfl (Nat.le_of_ble_eq_true rfl) (Nat.le_of_ble_eq_true rfl) (by omega) (by omega) (Nat.le_of_ble_eq_true rfl) (kk := fun v234 s234 hv234 Ws234 qs234 => ?_)
                      obtain ⟨es234, qs234⟩ := qs234
                      have es234 := es234.symm
                      subst es234
                      have h := h v234 hv234 qs234
                      obtain ⟨p95, h⟩ := h
                      refine y_callVv hC (pc := 237) (As := [iv 2, iv v26, iv v234]) (kX14_note_t l G κ s13 2 v26 v234 gg Ws13 (r_lit rfl) hv26 hv234 p95) dmX14_note zf14 rOb_0 dX14_readText_237 zw3111 rfl rfl (Nat.le_of_ble_eq_true rfl) (Nat.le_of_ble_eq_true rfl) (by omega) (by omega) (Nat.le_of_ble_eq_true rfl) (kk := fun s237 Ws237 qs237 => ?_)
                      have h := h s237 Ws237 (rNMp.keep qs237.1 rfl rfl rfl rfl rfl) (TPRp.keep qs237.1 rfl rfl rfl) (PNp.keep qs237.1 rfl rfl rfl rfl rfl) (CCp.keep qs237.1 rfl rfl rfl rfl rfl rfl rfl) (qs237.1.R rfl) (qs237.1.F rfl) (qs237.1.F rfl) (qs237.1.F rfl) (qs237.1.F rfl) (qs237.1.F rfl) (qs237.1.F rfl) (qs237.1.F rfl) (qs237.1.F rfl) (qs237.1.F rfl) (qs237.1.F rfl) (qs237.1.F rfl) (fun i => qs237.1.A (f := 26) (by decide) rfl) (fun i => qs237.1.A (f := 40) (by decide) rfl) (qs237.1.FG g0 rfl) (qs237.1.FG g0 rfl) (qs237.1.FG g0 rfl) (qs237.1.FG g0 rfl) (qs237.1.FG g0 rfl) (fun i => qs237.1.AG (f := 10) g0 (by decide) rfl) (fun i => qs237.1.AG (f := 11) g0 (by decide) rfl) (fun i => qs237.1.AG (f := 31) g0 (by decide) rfl) (fun i => qs237.1.AG (f := 33) g0 (by decide) rfl) (fun i => qs237.1.AG (f := 34) g0 (by decide) rfl) (fun i => qs237.1.AG (f := 35) g0 (by decide) rfl) (fz_keep qs237.1 rfl) qs237.2
                      refine z_aload_n hC (pc := 240) 1 dX14_readText_240 rfl rfl ?_
                      refine z_dup hC (pc := 241) dX14_readText_241 rfl ?_
                      refine y_get hC (pc := 242) zf14 rOb_0 29 (v := iv (rF s13 0 29)) dX14_readText_242 zw2496 (rv_i (Or.inl rfl) ((qs237.1.F rfl).trans rfl)) (kk := ?_)
                      have h := h (Ws13.f _ _)
                      refine z_iconst hC (pc := 245) (v := Int32.ofInt 1) dX14_readText_245 (by decide) ?_
                      refine y_iadd hC (pc := 246) (v := ((rF s13 0 29) + 1)) dX14_readText_246 rfl ?_
                      obtain ⟨r96, h⟩ := h
                      refine y_putI hC (pc := 247) zf14 rOb_0 29 (x := ((rF s13 0 29) + 1)) dX14_readText_247 zw2496 (Or.inl rfl) rfl rfl (kk := ?_)
                      have W97 := Ws237.sF (q := 0) (f := 29) (x := ((rF s13 0 29) + 1)) r96
                      refine z_goto hC (pc := 250) 13 dX14_readText_250 (by decide) ?_
                      refine z_lvs [1, 2, 3, 4, 5] rfl ?_
                      obtain ⟨hI, hm⟩ := h
                      exact ih13 (sF s237 0 29 ((rF s13 0 29) + 1)) y13_2 y13_3 y13_4 W97 hy13_2 hy13_3 hy13_4 (rKeep.tr (rKeep.tr (rKeep.tr rKeep.rf kJ rfl rfl rfl rfl rfl) qs237.1 rfl rfl rfl rfl rfl) (rKeep.sF0 (f := 29)) rfl rfl rfl rfl rfl) hI (by omega)
                  · have h := hF c
                    refine z_aload_n hC (pc := 122) 1 dX14_readText_122 rfl rfl ?_
                    refine y_get hC (pc := 123) zf14 rOb_0 29 (v := iv (rF s13 0 29)) dX14_readText_123 zw2496 (rv_i (Or.inl rfl) rfl) (kk := ?_)
                    have h := h (Ws13.f _ _)
                    refine z_iconst hC (pc := 126) (v := Int32.ofInt 1) dX14_readText_126 (by decide) ?_
                    refine y_iadd hC (pc := 127) (v := ((rF s13 0 29) + 1)) dX14_readText_127 rfl ?_
                    refine z_aload_n hC (pc := 128) 1 dX14_readText_128 rfl rfl ?_
                    refine y_get hC (pc := 129) zf14 rOb_0 28 (v := iv (rF s13 0 28)) dX14_readText_129 zw2495 (rv_i (Or.inl rfl) rfl) (kk := ?_)
                    have h := h (Ws13.f _ _)
                    obtain ⟨r98, h⟩ := h
                    obtain ⟨hT, hF⟩ := h
                    refine y_icmp_ge hC (pc := 132) 218 r98 (Ws13.f _ _) dX14_readText_132 (by decide) (fun c => ?_) (fun c => ?_)
                    · have h := hT c
                      refine z_aload_n hC (pc := 218) 1 dX14_readText_218 rfl rfl ?_
                      refine z_iload hC (pc := 219) 0 dX14_readText_219 rfl ?_
                      refine z_bipush hC (pc := 221) (v := Int32.ofInt 10) dX14_readText_221 (by decide) ?_
                      obtain ⟨hT, hF⟩ := h
                      refine y_icmp_ne hC (pc := 223) 230 hv26 (r_lit rfl) dX14_readText_223 (by decide) (fun c => ?_) (fun c => ?_)
                      · have h := hT c
                        refine z_iconst hC (pc := 230) (v := Int32.ofInt 1) dX14_readText_230 (by decide) ?_
                        refine z_iload hC (pc := 231) 0 dX14_readText_231 rfl ?_
                        refine z_aload_n hC (pc := 233) 1 dX14_readText_233 rfl rfl ?_
                        obtain ⟨p99, h⟩ := h
                        refine y_callVi hC (pc := 234) (As := []) (kX14_place l G κ s13  Ws13  p99) dmX14_place zf14 rOb_0 dX14_readText_234 zw3103 rfl rfl (Nat.le_of_ble_eq_true rfl) (Nat.le_of_ble_eq_true rfl) (by omega) (by omega) (Nat.le_of_ble_eq_true rfl) (kk := fun v234 s234 hv234 Ws234 qs234 => ?_)
                        obtain ⟨es234, qs234⟩ := qs234
                        have es234 := es234.symm
                        subst es234
                        have h := h v234 hv234 qs234
                        obtain ⟨p100, h⟩ := h
                        refine y_callVv hC (pc := 237) (As := [iv 1, iv v26, iv v234]) (kX14_note_t l G κ s13 1 v26 v234 gg Ws13 (r_lit rfl) hv26 hv234 p100) dmX14_note zf14 rOb_0 dX14_readText_237 zw3111 rfl rfl (Nat.le_of_ble_eq_true rfl) (Nat.le_of_ble_eq_true rfl) (by omega) (by omega) (Nat.le_of_ble_eq_true rfl) (kk := fun s237 Ws237 qs237 => ?_)
                        have h := h s237 Ws237 (rNMp.keep qs237.1 rfl rfl rfl rfl rfl) (TPRp.keep qs237.1 rfl rfl rfl) (PNp.keep qs237.1 rfl rfl rfl rfl rfl) (CCp.keep qs237.1 rfl rfl rfl rfl rfl rfl rfl) (qs237.1.R rfl) (qs237.1.F rfl) (qs237.1.F rfl) (qs237.1.F rfl) (qs237.1.F rfl) (qs237.1.F rfl) (qs237.1.F rfl) (qs237.1.F rfl) (qs237.1.F rfl) (qs237.1.F rfl) (qs237.1.F rfl) (qs237.1.F rfl) (fun i => qs237.1.A (f := 26) (by decide) rfl) (fun i => qs237.1.A (f := 40) (by decide) rfl) (qs237.1.FG g0 rfl) (qs237.1.FG g0 rfl) (qs237.1.FG g0 rfl) (qs237.1.FG g0 rfl) (qs237.1.FG g0 rfl) (fun i => qs237.1.AG (f := 10) g0 (by decide) rfl) (fun i => qs237.1.AG (f := 11) g0 (by decide) rfl) (fun i => qs237.1.AG (f := 31) g0 (by decide) rfl) (fun i => qs237.1.AG (f := 33) g0 (by decide) rfl) (fun i => qs237.1.AG (f := 34) g0 (by decide) rfl) (fun i => qs237.1.AG (f := 35) g0 (by decide) rfl) (fz_keep qs237.1 rfl) qs237.2
                        refine z_aload_n hC (pc := 240) 1 dX14_readText_240 rfl rfl ?_
                        refine z_dup hC (pc := 241) dX14_readText_241 rfl ?_
                        refine y_get hC (pc := 242) zf14 rOb_0 29 (v := iv (rF s13 0 29)) dX14_readText_242 zw2496 (rv_i (Or.inl rfl) ((qs237.1.F rfl).trans rfl)) (kk := ?_)
                        refine z_iconst hC (pc := 245) (v := Int32.ofInt 1) dX14_readText_245 (by decide) ?_
                        refine y_iadd hC (pc := 246) (v := ((rF s13 0 29) + 1)) dX14_readText_246 rfl ?_
                        refine y_putI hC (pc := 247) zf14 rOb_0 29 (x := ((rF s13 0 29) + 1)) dX14_readText_247 zw2496 (Or.inl rfl) rfl rfl (kk := ?_)
                        have W101 := Ws237.sF (q := 0) (f := 29) (x := ((rF s13 0 29) + 1)) r98
                        refine z_goto hC (pc := 250) 13 dX14_readText_250 (by decide) ?_
                        refine z_lvs [1, 2, 3, 4, 5] rfl ?_
                        obtain ⟨hI, hm⟩ := h
                        exact ih13 (sF s237 0 29 ((rF s13 0 29) + 1)) y13_2 y13_3 y13_4 W101 hy13_2 hy13_3 hy13_4 (rKeep.tr (rKeep.tr (rKeep.tr rKeep.rf kJ rfl rfl rfl rfl rfl) qs237.1 rfl rfl rfl rfl rfl) (rKeep.sF0 (f := 29)) rfl rfl rfl rfl rfl) hI (by omega)
                      · have h := hF c
                        refine z_iconst hC (pc := 226) (v := Int32.ofInt 2) dX14_readText_226 (by decide) ?_
                        refine z_goto hC (pc := 227) 231 dX14_readText_227 (by decide) ?_
                        refine z_iload hC (pc := 231) 0 dX14_readText_231 rfl ?_
                        refine z_aload_n hC (pc := 233) 1 dX14_readText_233 rfl rfl ?_
                        obtain ⟨p102, h⟩ := h
                        refine y_callVi hC (pc := 234) (As := []) (kX14_place l G κ s13  Ws13  p102) dmX14_place zf14 rOb_0 dX14_readText_234 zw3103 rfl rfl (Nat.le_of_ble_eq_true rfl) (Nat.le_of_ble_eq_true rfl) (by omega) (by omega) (Nat.le_of_ble_eq_true rfl) (kk := fun v234 s234 hv234 Ws234 qs234 => ?_)
                        obtain ⟨es234, qs234⟩ := qs234
                        have es234 := es234.symm
                        subst es234
                        have h := h v234 hv234 qs234
                        obtain ⟨p103, h⟩ := h
                        refine y_callVv hC (pc := 237) (As := [iv 2, iv v26, iv v234]) (kX14_note_t l G κ s13 2 v26 v234 gg Ws13 (r_lit rfl) hv26 hv234 p103) dmX14_note zf14 rOb_0 dX14_readText_237 zw3111 rfl rfl (Nat.le_of_ble_eq_true rfl) (Nat.le_of_ble_eq_true rfl) (by omega) (by omega) (Nat.le_of_ble_eq_true rfl) (kk := fun s237 Ws237 qs237 => ?_)
                        have h := h s237 Ws237 (rNMp.keep qs237.1 rfl rfl rfl rfl rfl) (TPRp.keep qs237.1 rfl rfl rfl) (PNp.keep qs237.1 rfl rfl rfl rfl rfl) (CCp.keep qs237.1 rfl rfl rfl rfl rfl rfl rfl) (qs237.1.R rfl) (qs237.1.F rfl) (qs237.1.F rfl) (qs237.1.F rfl) (qs237.1.F rfl) (qs237.1.F rfl) (qs237.1.F rfl) (qs237.1.F rfl) (qs237.1.F rfl) (qs237.1.F rfl) (qs237.1.F rfl) (qs237.1.F rfl) (fun i => qs237.1.A (f := 26) (by decide) rfl) (fun i => qs237.1.A (f := 40) (by decide) rfl) (qs237.1.FG g0 rfl) (qs237.1.FG g0 rfl) (qs237.1.FG g0 rfl) (qs237.1.FG g0 rfl) (qs237.1.FG g0 rfl) (fun i => qs237.1.AG (f := 10) g0 (by decide) rfl) (fun i => qs237.1.AG (f := 11) g0 (by decide) rfl) (fun i => qs237.1.AG (f := 31) g0 (by decide) rfl) (fun i => qs237.1.AG (f := 33) g0 (by decide) rfl) (fun i => qs237.1.AG (f := 34) g0 (by decide) rfl) (fun i => qs237.1.AG (f := 35) g0 (by decide) rfl) (fz_keep qs237.1 rfl) qs237.2
                        refine z_aload_n hC (pc := 240) 1 dX14_readText_240 rfl rfl ?_
                        refine z_dup hC (pc := 241) dX14_readText_241 rfl ?_
                        refine y_get hC (pc := 242) zf14 rOb_0 29 (v := iv (rF s13 0 29)) dX14_readText_242 zw2496 (rv_i (Or.inl rfl) ((qs237.1.F rfl).trans rfl)) (kk := ?_)
                        refine z_iconst hC (pc := 245) (v := Int32.ofInt 1) dX14_readText_245 (by decide) ?_
                        refine y_iadd hC (pc := 246) (v := ((rF s13 0 29) + 1)) dX14_readText_246 rfl ?_
                        refine y_putI hC (pc := 247) zf14 rOb_0 29 (x := ((rF s13 0 29) + 1)) dX14_readText_247 zw2496 (Or.inl rfl) rfl rfl (kk := ?_)
                        have W104 := Ws237.sF (q := 0) (f := 29) (x := ((rF s13 0 29) + 1)) r98
                        refine z_goto hC (pc := 250) 13 dX14_readText_250 (by decide) ?_
                        refine z_lvs [1, 2, 3, 4, 5] rfl ?_
                        obtain ⟨hI, hm⟩ := h
                        exact ih13 (sF s237 0 29 ((rF s13 0 29) + 1)) y13_2 y13_3 y13_4 W104 hy13_2 hy13_3 hy13_4 (rKeep.tr (rKeep.tr (rKeep.tr rKeep.rf kJ rfl rfl rfl rfl rfl) qs237.1 rfl rfl rfl rfl rfl) (rKeep.sF0 (f := 29)) rfl rfl rfl rfl rfl) hI (by omega)
                    · have h := hF c
                      refine z_aload_n hC (pc := 135) 1 dX14_readText_135 rfl rfl ?_
                      refine y_get hC (pc := 136) zf14 rOb_0 26 (v := .ref (κ 1026)) dX14_readText_136 zw2493 (rv_c rfl) (kk := ?_)
                      refine z_aload_n hC (pc := 139) 1 dX14_readText_139 rfl rfl ?_
                      refine y_get hC (pc := 140) zf14 rOb_0 29 (v := iv (rF s13 0 29)) dX14_readText_140 zw2496 (rv_i (Or.inl rfl) rfl) (kk := ?_)
                      refine z_iconst hC (pc := 143) (v := Int32.ofInt 1) dX14_readText_143 (by decide) ?_
                      refine y_iadd hC (pc := 144) (v := ((rF s13 0 29) + 1)) dX14_readText_144 rfl ?_
                      obtain ⟨b105, h⟩ := h
                      refine y_bald hC (pc := 145) (rAr_m rfl) dX14_readText_145 b105 (v := (rA s13 1026 ((rF s13 0 29) + 1))) rfl (kk := ?_)
                      have h := h (Ws13.a _ _)
                      refine z_aload_n hC (pc := 146) 1 dX14_readText_146 rfl rfl ?_
                      refine y_get hC (pc := 147) zf14 rOb_0 18 (v := iv (rF s13 0 18)) dX14_readText_147 zw2485 (rv_i (Or.inl rfl) rfl) (kk := ?_)
                      obtain ⟨hT, hF⟩ := h
                      refine y_icmp_eq hC (pc := 150) 185 (Ws13.a _ _) (Ws13.f _ _) dX14_readText_150 (by decide) (fun c => ?_) (fun c => ?_)
                      · have h := hT c
                        refine z_aload_n hC (pc := 185) 1 dX14_readText_185 rfl rfl ?_
                        refine z_iconst hC (pc := 186) (v := Int32.ofInt 1) dX14_readText_186 (by decide) ?_
                        refine z_aload_n hC (pc := 187) 1 dX14_readText_187 rfl rfl ?_
                        refine y_get hC (pc := 188) zf14 rOb_0 26 (v := .ref (κ 1026)) dX14_readText_188 zw2493 (rv_c rfl) (kk := ?_)
                        refine z_aload_n hC (pc := 191) 1 dX14_readText_191 rfl rfl ?_
                        refine y_get hC (pc := 192) zf14 rOb_0 29 (v := iv (rF s13 0 29)) dX14_readText_192 zw2496 (rv_i (Or.inl rfl) rfl) (kk := ?_)
                        refine z_iconst hC (pc := 195) (v := Int32.ofInt 1) dX14_readText_195 (by decide) ?_
                        refine y_iadd hC (pc := 196) (v := ((rF s13 0 29) + 1)) dX14_readText_196 rfl ?_
                        obtain ⟨b106, h⟩ := h
                        refine y_bald hC (pc := 197) (rAr_m rfl) dX14_readText_197 b106 (v := (rA s13 1026 ((rF s13 0 29) + 1))) rfl (kk := ?_)
                        refine z_aload_n hC (pc := 198) 1 dX14_readText_198 rfl rfl ?_
                        obtain ⟨p107, h⟩ := h
                        refine y_callVi hC (pc := 199) (As := []) (kX14_place l G κ s13  Ws13  p107) dmX14_place zf14 rOb_0 dX14_readText_199 zw3103 rfl rfl (Nat.le_of_ble_eq_true rfl) (Nat.le_of_ble_eq_true rfl) (by omega) (by omega) (Nat.le_of_ble_eq_true rfl) (kk := fun v199 s199 hv199 Ws199 qs199 => ?_)
                        obtain ⟨es199, qs199⟩ := qs199
                        have es199 := es199.symm
                        subst es199
                        have h := h v199 hv199 qs199
                        obtain ⟨p108, h⟩ := h
                        refine y_callVv hC (pc := 202) (As := [iv 1, iv (rA s13 1026 ((rF s13 0 29) + 1)), iv v199]) (kX14_note_t l G κ s13 1 (rA s13 1026 ((rF s13 0 29) + 1)) v199 gg Ws13 (r_lit rfl) (Ws13.a _ _) hv199 p108) dmX14_note zf14 rOb_0 dX14_readText_202 zw3111 rfl rfl (Nat.le_of_ble_eq_true rfl) (Nat.le_of_ble_eq_true rfl) (by omega) (by omega) (Nat.le_of_ble_eq_true rfl) (kk := fun s202 Ws202 qs202 => ?_)
                        have h := h s202 Ws202 (rNMp.keep qs202.1 rfl rfl rfl rfl rfl) (TPRp.keep qs202.1 rfl rfl rfl) (PNp.keep qs202.1 rfl rfl rfl rfl rfl) (CCp.keep qs202.1 rfl rfl rfl rfl rfl rfl rfl) (qs202.1.R rfl) (qs202.1.F rfl) (qs202.1.F rfl) (qs202.1.F rfl) (qs202.1.F rfl) (qs202.1.F rfl) (qs202.1.F rfl) (qs202.1.F rfl) (qs202.1.F rfl) (qs202.1.F rfl) (qs202.1.F rfl) (qs202.1.F rfl) (fun i => qs202.1.A (f := 26) (by decide) rfl) (fun i => qs202.1.A (f := 40) (by decide) rfl) (qs202.1.FG g0 rfl) (qs202.1.FG g0 rfl) (qs202.1.FG g0 rfl) (qs202.1.FG g0 rfl) (qs202.1.FG g0 rfl) (fun i => qs202.1.AG (f := 10) g0 (by decide) rfl) (fun i => qs202.1.AG (f := 11) g0 (by decide) rfl) (fun i => qs202.1.AG (f := 31) g0 (by decide) rfl) (fun i => qs202.1.AG (f := 33) g0 (by decide) rfl) (fun i => qs202.1.AG (f := 34) g0 (by decide) rfl) (fun i => qs202.1.AG (f := 35) g0 (by decide) rfl) (fz_keep qs202.1 rfl) qs202.2
                        refine z_aload_n hC (pc := 205) 1 dX14_readText_205 rfl rfl ?_
                        refine z_dup hC (pc := 206) dX14_readText_206 rfl ?_
                        refine y_get hC (pc := 207) zf14 rOb_0 29 (v := iv (rF s13 0 29)) dX14_readText_207 zw2496 (rv_i (Or.inl rfl) ((qs202.1.F rfl).trans rfl)) (kk := ?_)
                        refine z_iconst hC (pc := 210) (v := Int32.ofInt 2) dX14_readText_210 (by decide) ?_
                        refine y_iadd hC (pc := 211) (v := ((rF s13 0 29) + 2)) dX14_readText_211 rfl ?_
                        obtain ⟨r109, h⟩ := h
                        refine y_putI hC (pc := 212) zf14 rOb_0 29 (x := ((rF s13 0 29) + 2)) dX14_readText_212 zw2496 (Or.inl rfl) rfl rfl (kk := ?_)
                        have W110 := Ws202.sF (q := 0) (f := 29) (x := ((rF s13 0 29) + 2)) r109
                        refine z_goto hC (pc := 215) 250 dX14_readText_215 (by decide) ?_
                        refine z_goto hC (pc := 250) 13 dX14_readText_250 (by decide) ?_
                        refine z_lvs [1, 2, 3, 4, 5] rfl ?_
                        obtain ⟨hI, hm⟩ := h
                        exact ih13 (sF s202 0 29 ((rF s13 0 29) + 2)) y13_2 y13_3 y13_4 W110 hy13_2 hy13_3 hy13_4 (rKeep.tr (rKeep.tr (rKeep.tr rKeep.rf kJ rfl rfl rfl rfl rfl) qs202.1 rfl rfl rfl rfl rfl) (rKeep.sF0 (f := 29)) rfl rfl rfl rfl rfl) hI (by omega)
                      · have h := hF c
                        refine z_aload_n hC (pc := 153) 1 dX14_readText_153 rfl rfl ?_
                        refine y_get hC (pc := 154) zf14 rOb_0 26 (v := .ref (κ 1026)) dX14_readText_154 zw2493 (rv_c rfl) (kk := ?_)
                        refine z_aload_n hC (pc := 157) 1 dX14_readText_157 rfl rfl ?_
                        refine y_get hC (pc := 158) zf14 rOb_0 29 (v := iv (rF s13 0 29)) dX14_readText_158 zw2496 (rv_i (Or.inl rfl) rfl) (kk := ?_)
                        refine z_iconst hC (pc := 161) (v := Int32.ofInt 1) dX14_readText_161 (by decide) ?_
                        refine y_iadd hC (pc := 162) (v := ((rF s13 0 29) + 1)) dX14_readText_162 rfl ?_
                        obtain ⟨b111, h⟩ := h
                        refine y_bald hC (pc := 163) (rAr_m rfl) dX14_readText_163 b111 (v := (rA s13 1026 ((rF s13 0 29) + 1))) rfl (kk := ?_)
                        refine z_bipush hC (pc := 164) (v := Int32.ofInt 92) dX14_readText_164 (by decide) ?_
                        obtain ⟨hT, hF⟩ := h
                        refine y_icmp_eq hC (pc := 166) 185 (Ws13.a _ _) (r_lit rfl) dX14_readText_166 (by decide) (fun c => ?_) (fun c => ?_)
                        · have h := hT c
                          refine z_aload_n hC (pc := 185) 1 dX14_readText_185 rfl rfl ?_
                          refine z_iconst hC (pc := 186) (v := Int32.ofInt 1) dX14_readText_186 (by decide) ?_
                          refine z_aload_n hC (pc := 187) 1 dX14_readText_187 rfl rfl ?_
                          refine y_get hC (pc := 188) zf14 rOb_0 26 (v := .ref (κ 1026)) dX14_readText_188 zw2493 (rv_c rfl) (kk := ?_)
                          refine z_aload_n hC (pc := 191) 1 dX14_readText_191 rfl rfl ?_
                          refine y_get hC (pc := 192) zf14 rOb_0 29 (v := iv (rF s13 0 29)) dX14_readText_192 zw2496 (rv_i (Or.inl rfl) rfl) (kk := ?_)
                          refine z_iconst hC (pc := 195) (v := Int32.ofInt 1) dX14_readText_195 (by decide) ?_
                          refine y_iadd hC (pc := 196) (v := ((rF s13 0 29) + 1)) dX14_readText_196 rfl ?_
                          obtain ⟨b112, h⟩ := h
                          refine y_bald hC (pc := 197) (rAr_m rfl) dX14_readText_197 b112 (v := (rA s13 1026 ((rF s13 0 29) + 1))) rfl (kk := ?_)
                          refine z_aload_n hC (pc := 198) 1 dX14_readText_198 rfl rfl ?_
                          obtain ⟨p113, h⟩ := h
                          refine y_callVi hC (pc := 199) (As := []) (kX14_place l G κ s13  Ws13  p113) dmX14_place zf14 rOb_0 dX14_readText_199 zw3103 rfl rfl (Nat.le_of_ble_eq_true rfl) (Nat.le_of_ble_eq_true rfl) (by omega) (by omega) (Nat.le_of_ble_eq_true rfl) (kk := fun v199 s199 hv199 Ws199 qs199 => ?_)
                          obtain ⟨es199, qs199⟩ := qs199
                          have es199 := es199.symm
                          subst es199
                          have h := h v199 hv199 qs199
                          obtain ⟨p114, h⟩ := h
                          refine y_callVv hC (pc := 202) (As := [iv 1, iv (rA s13 1026 ((rF s13 0 29) + 1)), iv v199]) (kX14_note_t l G κ s13 1 (rA s13 1026 ((rF s13 0 29) + 1)) v199 gg Ws13 (r_lit rfl) (Ws13.a _ _) hv199 p114) dmX14_note zf14 rOb_0 dX14_readText_202 zw3111 rfl rfl (Nat.le_of_ble_eq_true rfl) (Nat.le_of_ble_eq_true rfl) (by omega) (by omega) (Nat.le_of_ble_eq_true rfl) (kk := fun s202 Ws202 qs202 => ?_)
                          have h := h s202 Ws202 (rNMp.keep qs202.1 rfl rfl rfl rfl rfl) (TPRp.keep qs202.1 rfl rfl rfl) (PNp.keep qs202.1 rfl rfl rfl rfl rfl) (CCp.keep qs202.1 rfl rfl rfl rfl rfl rfl rfl) (qs202.1.R rfl) (qs202.1.F rfl) (qs202.1.F rfl) (qs202.1.F rfl) (qs202.1.F rfl) (qs202.1.F rfl) (qs202.1.F rfl) (qs202.1.F rfl) (qs202.1.F rfl) (qs202.1.F rfl) (qs202.1.F rfl) (qs202.1.F rfl) (fun i => qs202.1.A (f := 26) (by decide) rfl) (fun i => qs202.1.A (f := 40) (by decide) rfl) (qs202.1.FG g0 rfl) (qs202.1.FG g0 rfl) (qs202.1.FG g0 rfl) (qs202.1.FG g0 rfl) (qs202.1.FG g0 rfl) (fun i => qs202.1.AG (f := 10) g0 (by decide) rfl) (fun i => qs202.1.AG (f := 11) g0 (by decide) rfl) (fun i => qs202.1.AG (f := 31) g0 (by decide) rfl) (fun i => qs202.1.AG (f := 33) g0 (by decide) rfl) (fun i => qs202.1.AG (f := 34) g0 (by decide) rfl) (fun i => qs202.1.AG (f := 35) g0 (by decide) rfl) (fz_keep qs202.1 rfl) qs202.2
                          refine z_aload_n hC (pc := 205) 1 dX14_readText_205 rfl rfl ?_
                          refine z_dup hC (pc := 206) dX14_readText_206 rfl ?_
                          refine y_get hC (pc := 207) zf14 rOb_0 29 (v := iv (rF s13 0 29)) dX14_readText_207 zw2496 (rv_i (Or.inl rfl) ((qs202.1.F rfl).trans rfl)) (kk := ?_)
                          refine z_iconst hC (pc := 210) (v := Int32.ofInt 2) dX14_readText_210 (by decide) ?_
                          refine y_iadd hC (pc := 211) (v := ((rF s13 0 29) + 2)) dX14_readText_211 rfl ?_
                          obtain ⟨r115, h⟩ := h
                          refine y_putI hC (pc := 212) zf14 rOb_0 29 (x := ((rF s13 0 29) + 2)) dX14_readText_212 zw2496 (Or.inl rfl) rfl rfl (kk := ?_)
                          have W116 := Ws202.sF (q := 0) (f := 29) (x := ((rF s13 0 29) + 2)) r115
                          refine z_goto hC (pc := 215) 250 dX14_readText_215 (by decide) ?_
                          refine z_goto hC (pc := 250) 13 dX14_readText_250 (by decide) ?_
                          refine z_lvs [1, 2, 3, 4, 5] rfl ?_
                          obtain ⟨hI, hm⟩ := h
                          exact ih13 (sF s202 0 29 ((rF s13 0 29) + 2)) y13_2 y13_3 y13_4 W116 hy13_2 hy13_3 hy13_4 (rKeep.tr (rKeep.tr (rKeep.tr rKeep.rf kJ rfl rfl rfl rfl rfl) qs202.1 rfl rfl rfl rfl rfl) (rKeep.sF0 (f := 29)) rfl rfl rfl rfl rfl) hI (by omega)
                        · have h := hF c
                          refine z_aload_n hC (pc := 169) 1 dX14_readText_169 rfl rfl ?_
                          refine y_get hC (pc := 170) zf14 rOb_0 26 (v := .ref (κ 1026)) dX14_readText_170 zw2493 (rv_c rfl) (kk := ?_)
                          refine z_aload_n hC (pc := 173) 1 dX14_readText_173 rfl rfl ?_
                          refine y_get hC (pc := 174) zf14 rOb_0 29 (v := iv (rF s13 0 29)) dX14_readText_174 zw2496 (rv_i (Or.inl rfl) rfl) (kk := ?_)
                          refine z_iconst hC (pc := 177) (v := Int32.ofInt 1) dX14_readText_177 (by decide) ?_
                          refine y_iadd hC (pc := 178) (v := ((rF s13 0 29) + 1)) dX14_readText_178 rfl ?_
                          obtain ⟨b117, h⟩ := h
                          refine y_bald hC (pc := 179) (rAr_m rfl) dX14_readText_179 b117 (v := (rA s13 1026 ((rF s13 0 29) + 1))) rfl (kk := ?_)
                          refine z_bipush hC (pc := 180) (v := Int32.ofInt 125) dX14_readText_180 (by decide) ?_
                          obtain ⟨hT, hF⟩ := h
                          refine y_icmp_ne hC (pc := 182) 218 (Ws13.a _ _) (r_lit rfl) dX14_readText_182 (by decide) (fun c => ?_) (fun c => ?_)
                          · have h := hT c
                            refine z_aload_n hC (pc := 218) 1 dX14_readText_218 rfl rfl ?_
                            refine z_iload hC (pc := 219) 0 dX14_readText_219 rfl ?_
                            refine z_bipush hC (pc := 221) (v := Int32.ofInt 10) dX14_readText_221 (by decide) ?_
                            obtain ⟨hT, hF⟩ := h
                            refine y_icmp_ne hC (pc := 223) 230 hv26 (r_lit rfl) dX14_readText_223 (by decide) (fun c => ?_) (fun c => ?_)
                            · have h := hT c
                              refine z_iconst hC (pc := 230) (v := Int32.ofInt 1) dX14_readText_230 (by decide) ?_
                              refine z_iload hC (pc := 231) 0 dX14_readText_231 rfl ?_
                              refine z_aload_n hC (pc := 233) 1 dX14_readText_233 rfl rfl ?_
                              obtain ⟨p118, h⟩ := h
                              refine y_callVi hC (pc := 234) (As := []) (kX14_place l G κ s13  Ws13  p118) dmX14_place zf14 rOb_0 dX14_readText_234 zw3103 rfl rfl (Nat.le_of_ble_eq_true rfl) (Nat.le_of_ble_eq_true rfl) (by omega) (by omega) (Nat.le_of_ble_eq_true rfl) (kk := fun v234 s234 hv234 Ws234 qs234 => ?_)
                              obtain ⟨es234, qs234⟩ := qs234
                              have es234 := es234.symm
                              subst es234
                              have h := h v234 hv234 qs234
                              obtain ⟨p119, h⟩ := h
                              refine y_callVv hC (pc := 237) (As := [iv 1, iv v26, iv v234]) (kX14_note_t l G κ s13 1 v26 v234 gg Ws13 (r_lit rfl) hv26 hv234 p119) dmX14_note zf14 rOb_0 dX14_readText_237 zw3111 rfl rfl (Nat.le_of_ble_eq_true rfl) (Nat.le_of_ble_eq_true rfl) (by omega) (by omega) (Nat.le_of_ble_eq_true rfl) (kk := fun s237 Ws237 qs237 => ?_)
                              have h := h s237 Ws237 (rNMp.keep qs237.1 rfl rfl rfl rfl rfl) (TPRp.keep qs237.1 rfl rfl rfl) (PNp.keep qs237.1 rfl rfl rfl rfl rfl) (CCp.keep qs237.1 rfl rfl rfl rfl rfl rfl rfl) (qs237.1.R rfl) (qs237.1.F rfl) (qs237.1.F rfl) (qs237.1.F rfl) (qs237.1.F rfl) (qs237.1.F rfl) (qs237.1.F rfl) (qs237.1.F rfl) (qs237.1.F rfl) (qs237.1.F rfl) (qs237.1.F rfl) (qs237.1.F rfl) (fun i => qs237.1.A (f := 26) (by decide) rfl) (fun i => qs237.1.A (f := 40) (by decide) rfl) (qs237.1.FG g0 rfl) (qs237.1.FG g0 rfl) (qs237.1.FG g0 rfl) (qs237.1.FG g0 rfl) (qs237.1.FG g0 rfl) (fun i => qs237.1.AG (f := 10) g0 (by decide) rfl) (fun i => qs237.1.AG (f := 11) g0 (by decide) rfl) (fun i => qs237.1.AG (f := 31) g0 (by decide) rfl) (fun i => qs237.1.AG (f := 33) g0 (by decide) rfl) (fun i => qs237.1.AG (f := 34) g0 (by decide) rfl) (fun i => qs237.1.AG (f := 35) g0 (by decide) rfl) (fz_keep qs237.1 rfl) qs237.2
                              refine z_aload_n hC (pc := 240) 1 dX14_readText_240 rfl rfl ?_
                              refine z_dup hC (pc := 241) dX14_readText_241 rfl ?_
                              refine y_get hC (pc := 242) zf14 rOb_0 29 (v := iv (rF s13 0 29)) dX14_readText_242 zw2496 (rv_i (Or.inl rfl) ((qs237.1.F rfl).trans rfl)) (kk := ?_)
                              refine z_iconst hC (pc := 245) (v := Int32.ofInt 1) dX14_readText_245 (by decide) ?_
                              refine y_iadd hC (pc := 246) (v := ((rF s13 0 29) + 1)) dX14_readText_246 rfl ?_
                              refine y_putI hC (pc := 247) zf14 rOb_0 29 (x := ((rF s13 0 29) + 1)) dX14_readText_247 zw2496 (Or.inl rfl) rfl rfl (kk := ?_)
                              have W120 := Ws237.sF (q := 0) (f := 29) (x := ((rF s13 0 29) + 1)) r98
                              refine z_goto hC (pc := 250) 13 dX14_readText_250 (by decide) ?_
                              refine z_lvs [1, 2, 3, 4, 5] rfl ?_
                              obtain ⟨hI, hm⟩ := h
                              exact ih13 (sF s237 0 29 ((rF s13 0 29) + 1)) y13_2 y13_3 y13_4 W120 hy13_2 hy13_3 hy13_4 (rKeep.tr (rKeep.tr (rKeep.tr rKeep.rf kJ rfl rfl rfl rfl rfl) qs237.1 rfl rfl rfl rfl rfl) (rKeep.sF0 (f := 29)) rfl rfl rfl rfl rfl) hI (by omega)
                            · have h := hF c
                              refine z_iconst hC (pc := 226) (v := Int32.ofInt 2) dX14_readText_226 (by decide) ?_
                              refine z_goto hC (pc := 227) 231 dX14_readText_227 (by decide) ?_
                              refine z_iload hC (pc := 231) 0 dX14_readText_231 rfl ?_
                              refine z_aload_n hC (pc := 233) 1 dX14_readText_233 rfl rfl ?_
                              obtain ⟨p121, h⟩ := h
                              refine y_callVi hC (pc := 234) (As := []) (kX14_place l G κ s13  Ws13  p121) dmX14_place zf14 rOb_0 dX14_readText_234 zw3103 rfl rfl (Nat.le_of_ble_eq_true rfl) (Nat.le_of_ble_eq_true rfl) (by omega) (by omega) (Nat.le_of_ble_eq_true rfl) (kk := fun v234 s234 hv234 Ws234 qs234 => ?_)
                              obtain ⟨es234, qs234⟩ := qs234
                              have es234 := es234.symm
                              subst es234
                              have h := h v234 hv234 qs234
                              obtain ⟨p122, h⟩ := h
                              refine y_callVv hC (pc := 237) (As := [iv 2, iv v26, iv v234]) (kX14_note_t l G κ s13 2 v26 v234 gg Ws13 (r_lit rfl) hv26 hv234 p122) dmX14_note zf14 rOb_0 dX14_readText_237 zw3111 rfl rfl (Nat.le_of_ble_eq_true rfl) (Nat.le_of_ble_eq_true rfl) (by omega) (by omega) (Nat.le_of_ble_eq_true rfl) (kk := fun s237 Ws237 qs237 => ?_)
                              have h := h s237 Ws237 (rNMp.keep qs237.1 rfl rfl rfl rfl rfl) (TPRp.keep qs237.1 rfl rfl rfl) (PNp.keep qs237.1 rfl rfl rfl rfl rfl) (CCp.keep qs237.1 rfl rfl rfl rfl rfl rfl rfl) (qs237.1.R rfl) (qs237.1.F rfl) (qs237.1.F rfl) (qs237.1.F rfl) (qs237.1.F rfl) (qs237.1.F rfl) (qs237.1.F rfl) (qs237.1.F rfl) (qs237.1.F rfl) (qs237.1.F rfl) (qs237.1.F rfl) (qs237.1.F rfl) (fun i => qs237.1.A (f := 26) (by decide) rfl) (fun i => qs237.1.A (f := 40) (by decide) rfl) (qs237.1.FG g0 rfl) (qs237.1.FG g0 rfl) (qs237.1.FG g0 rfl) (qs237.1.FG g0 rfl) (qs237.1.FG g0 rfl) (fun i => qs237.1.AG (f := 10) g0 (by decide) rfl) (fun i => qs237.1.AG (f := 11) g0 (by decide) rfl) (fun i => qs237.1.AG (f := 31) g0 (by decide) rfl) (fun i => qs237.1.AG (f := 33) g0 (by decide) rfl) (fun i => qs237.1.AG (f := 34) g0 (by decide) rfl) (fun i => qs237.1.AG (f := 35) g0 (by decide) rfl) (fz_keep qs237.1 rfl) qs237.2
                              refine z_aload_n hC (pc := 240) 1 dX14_readText_240 rfl rfl ?_
                              refine z_dup hC (pc := 241) dX14_readText_241 rfl ?_
                              refine y_get hC (pc := 242) zf14 rOb_0 29 (v := iv (rF s13 0 29)) dX14_readText_242 zw2496 (rv_i (Or.inl rfl) ((qs237.1.F rfl).trans rfl)) (kk := ?_)
                              refine z_iconst hC (pc := 245) (v := Int32.ofInt 1) dX14_readText_245 (by decide) ?_
                              refine y_iadd hC (pc := 246) (v := ((rF s13 0 29) + 1)) dX14_readText_246 rfl ?_
                              refine y_putI hC (pc := 247) zf14 rOb_0 29 (x := ((rF s13 0 29) + 1)) dX14_readText_247 zw2496 (Or.inl rfl) rfl rfl (kk := ?_)
                              have W123 := Ws237.sF (q := 0) (f := 29) (x := ((rF s13 0 29) + 1)) r98
                              refine z_goto hC (pc := 250) 13 dX14_readText_250 (by decide) ?_
                              refine z_lvs [1, 2, 3, 4, 5] rfl ?_
                              obtain ⟨hI, hm⟩ := h
                              exact ih13 (sF s237 0 29 ((rF s13 0 29) + 1)) y13_2 y13_3 y13_4 W123 hy13_2 hy13_3 hy13_4 (rKeep.tr (rKeep.tr (rKeep.tr rKeep.rf kJ rfl rfl rfl rfl rfl) qs237.1 rfl rfl rfl rfl rfl) (rKeep.sF0 (f := 29)) rfl rfl rfl rfl rfl) hI (by omega)
                          · have h := hF c
                            refine z_aload_n hC (pc := 185) 1 dX14_readText_185 rfl rfl ?_
                            refine z_iconst hC (pc := 186) (v := Int32.ofInt 1) dX14_readText_186 (by decide) ?_
                            refine z_aload_n hC (pc := 187) 1 dX14_readText_187 rfl rfl ?_
                            refine y_get hC (pc := 188) zf14 rOb_0 26 (v := .ref (κ 1026)) dX14_readText_188 zw2493 (rv_c rfl) (kk := ?_)
                            refine z_aload_n hC (pc := 191) 1 dX14_readText_191 rfl rfl ?_
                            refine y_get hC (pc := 192) zf14 rOb_0 29 (v := iv (rF s13 0 29)) dX14_readText_192 zw2496 (rv_i (Or.inl rfl) rfl) (kk := ?_)
                            refine z_iconst hC (pc := 195) (v := Int32.ofInt 1) dX14_readText_195 (by decide) ?_
                            refine y_iadd hC (pc := 196) (v := ((rF s13 0 29) + 1)) dX14_readText_196 rfl ?_
                            obtain ⟨b124, h⟩ := h
                            refine y_bald hC (pc := 197) (rAr_m rfl) dX14_readText_197 b124 (v := (rA s13 1026 ((rF s13 0 29) + 1))) rfl (kk := ?_)
                            refine z_aload_n hC (pc := 198) 1 dX14_readText_198 rfl rfl ?_
                            obtain ⟨p125, h⟩ := h
                            refine y_callVi hC (pc := 199) (As := []) (kX14_place l G κ s13  Ws13  p125) dmX14_place zf14 rOb_0 dX14_readText_199 zw3103 rfl rfl (Nat.le_of_ble_eq_true rfl) (Nat.le_of_ble_eq_true rfl) (by omega) (by omega) (Nat.le_of_ble_eq_true rfl) (kk := fun v199 s199 hv199 Ws199 qs199 => ?_)
                            obtain ⟨es199, qs199⟩ := qs199
                            have es199 := es199.symm
                            subst es199
                            have h := h v199 hv199 qs199
                            obtain ⟨p126, h⟩ := h
                            refine y_callVv hC (pc := 202) (As := [iv 1, iv (rA s13 1026 ((rF s13 0 29) + 1)), iv v199]) (kX14_note_t l G κ s13 1 (rA s13 1026 ((rF s13 0 29) + 1)) v199 gg Ws13 (r_lit rfl) (Ws13.a _ _) hv199 p126) dmX14_note zf14 rOb_0 dX14_readText_202 zw3111 rfl rfl (Nat.le_of_ble_eq_true rfl) (Nat.le_of_ble_eq_true rfl) (by omega) (by omega) (Nat.le_of_ble_eq_true rfl) (kk := fun s202 Ws202 qs202 => ?_)
                            have h := h s202 Ws202 (rNMp.keep qs202.1 rfl rfl rfl rfl rfl) (TPRp.keep qs202.1 rfl rfl rfl) (PNp.keep qs202.1 rfl rfl rfl rfl rfl) (CCp.keep qs202.1 rfl rfl rfl rfl rfl rfl rfl) (qs202.1.R rfl) (qs202.1.F rfl) (qs202.1.F rfl) (qs202.1.F rfl) (qs202.1.F rfl) (qs202.1.F rfl) (qs202.1.F rfl) (qs202.1.F rfl) (qs202.1.F rfl) (qs202.1.F rfl) (qs202.1.F rfl) (qs202.1.F rfl) (fun i => qs202.1.A (f := 26) (by decide) rfl) (fun i => qs202.1.A (f := 40) (by decide) rfl) (qs202.1.FG g0 rfl) (qs202.1.FG g0 rfl) (qs202.1.FG g0 rfl) (qs202.1.FG g0 rfl) (qs202.1.FG g0 rfl) (fun i => qs202.1.AG (f := 10) g0 (by decide) rfl) (fun i => qs202.1.AG (f := 11) g0 (by decide) rfl) (fun i => qs202.1.AG (f := 31) g0 (by decide) rfl) (fun i => qs202.1.AG (f := 33) g0 (by decide) rfl) (fun i => qs202.1.AG (f := 34) g0 (by decide) rfl) (fun i => qs202.1.AG (f := 35) g0 (by decide) rfl) (fz_keep qs202.1 rfl) qs202.2
                            refine z_aload_n hC (pc := 205) 1 dX14_readText_205 rfl rfl ?_
                            refine z_dup hC (pc := 206) dX14_readText_206 rfl ?_
                            refine y_get hC (pc := 207) zf14 rOb_0 29 (v := iv (rF s13 0 29)) dX14_readText_207 zw2496 (rv_i (Or.inl rfl) ((qs202.1.F rfl).trans rfl)) (kk := ?_)
                            refine z_iconst hC (pc := 210) (v := Int32.ofInt 2) dX14_readText_210 (by decide) ?_
                            refine y_iadd hC (pc := 211) (v := ((rF s13 0 29) + 2)) dX14_readText_211 rfl ?_
                            obtain ⟨r127, h⟩ := h
                            refine y_putI hC (pc := 212) zf14 rOb_0 29 (x := ((rF s13 0 29) + 2)) dX14_readText_212 zw2496 (Or.inl rfl) rfl rfl (kk := ?_)
                            have W128 := Ws202.sF (q := 0) (f := 29) (x := ((rF s13 0 29) + 2)) r127
                            refine z_goto hC (pc := 215) 250 dX14_readText_215 (by decide) ?_
                            refine z_goto hC (pc := 250) 13 dX14_readText_250 (by decide) ?_
                            refine z_lvs [1, 2, 3, 4, 5] rfl ?_
                            obtain ⟨hI, hm⟩ := h
                            exact ih13 (sF s202 0 29 ((rF s13 0 29) + 2)) y13_2 y13_3 y13_4 W128 hy13_2 hy13_3 hy13_4 (rKeep.tr (rKeep.tr (rKeep.tr rKeep.rf kJ rfl rfl rfl rfl rfl) qs202.1 rfl rfl rfl rfl rfl) (rKeep.sF0 (f := 29)) rfl rfl rfl rfl rfl) hI (by omega)
                · have h := hF c
                  refine z_aload_n hC (pc := 107) 1 dX14_readText_107 rfl rfl ?_
                  refine z_iload_n hC (pc := 108) 4 dX14_readText_108 rfl rfl ?_
                  obtain ⟨g129, h⟩ := h
                  obtain ⟨L130, h⟩ := h
                  obtain ⟨p131, h⟩ := h
                  obtain ⟨p132, h⟩ := h
                  refine y_callVv hC (pc := 109) (As := [iv y13_3]) (qX14_readTag ih s13 y13_3 gg g129 L130 Ws13 hy13_3 p131 p132) dmX14_readTag zf14 rOb_0 dX14_readText_109 zw3107 rfl rfl (Nat.le_of_ble_eq_true rfl) (Nat.le_of_ble_eq_true rfl) (by omega) (by omega) (Nat.le_of_ble_eq_true rfl) (kk := fun s109 Ws109 qs109 => ?_)
                  have h := h s109 Ws109 (TPRp.keep qs109.1 rfl rfl rfl) (CCp.keep qs109.1 rfl rfl rfl rfl rfl rfl rfl) (qs109.1.R rfl) (qs109.1.F rfl) (qs109.1.F rfl) (qs109.1.F rfl) (qs109.1.F rfl) (qs109.1.F rfl) (qs109.1.F rfl) (fun i => qs109.1.A (f := 26) (by decide) rfl) qs109.2
                  refine z_goto hC (pc := 112) 250 dX14_readText_112 (by decide) ?_
                  refine z_goto hC (pc := 250) 13 dX14_readText_250 (by decide) ?_
                  refine z_lvs [1, 2, 3, 4, 5] rfl ?_
                  obtain ⟨hI, hm⟩ := h
                  exact ih13 s109 y13_2 y13_3 y13_4 Ws109 hy13_2 hy13_3 hy13_4 (rKeep.tr (rKeep.tr rKeep.rf kJ rfl rfl rfl rfl rfl) qs109.1 rfl rfl rfl rfl rfl) hI (by omega)
              · have h := hF c
                refine z_aload_n hC (pc := 47) 1 dX14_readText_47 rfl rfl ?_
                refine y_get hC (pc := 48) zf14 rOb_0 39 (v := iv (rF s13 0 39)) dX14_readText_48 zw2506 (rv_i (Or.inl rfl) rfl) (kk := ?_)
                have h := h (Ws13.f _ _)
                refine z_iload_n hC (pc := 51) 4 dX14_readText_51 rfl rfl ?_
                obtain ⟨hT, hF⟩ := h
                refine y_icmp_gt hC (pc := 52) 64 (Ws13.f _ _) hy13_3 dX14_readText_52 (by decide) (fun c => ?_) (fun c => ?_)
                · have h := hT c
                  refine z_aload_n hC (pc := 64) 1 dX14_readText_64 rfl rfl ?_
                  refine z_iconst hC (pc := 65) (v := Int32.ofInt 1) dX14_readText_65 (by decide) ?_
                  refine z_aload_n hC (pc := 66) 1 dX14_readText_66 rfl rfl ?_
                  obtain ⟨p133, h⟩ := h
                  refine y_callVi hC (pc := 67) (As := []) (kX14_place l G κ s13  Ws13  p133) dmX14_place zf14 rOb_0 dX14_readText_67 zw3103 rfl rfl (Nat.le_of_ble_eq_true rfl) (Nat.le_of_ble_eq_true rfl) (by omega) (by omega) (Nat.le_of_ble_eq_true rfl) (kk := fun v67 s67 hv67 Ws67 qs67 => ?_)
                  obtain ⟨es67, qs67⟩ := qs67
                  have es67 := es67.symm
                  subst es67
                  have h := h v67 hv67 qs67
                  obtain ⟨p134, h⟩ := h
                  refine y_callVv hC (pc := 70) (As := [iv 1, iv v67]) (kX14_bad l G κ s13 1 v67 Ws13 (r_lit rfl) hv67 p134) dmX14_bad zf14 rOb_0 dX14_readText_70 zw3000 rfl rfl (Nat.le_of_ble_eq_true rfl) (Nat.le_of_ble_eq_true rfl) (by omega) (by omega) (Nat.le_of_ble_eq_true rfl) (kk := fun s70 Ws70 qs70 => ?_)
                  have h := h s70 Ws70 (rNMp.keep qs70.1 rfl rfl rfl rfl rfl) (TPRp.keep qs70.1 rfl rfl rfl) (WNp.keep qs70.1 rfl rfl rfl rfl rfl) (PNp.keep qs70.1 rfl rfl rfl rfl rfl) (CCp.keep qs70.1 rfl rfl rfl rfl rfl rfl rfl) (qs70.1.R rfl) (qs70.1.F rfl) (qs70.1.F rfl) (qs70.1.F rfl) (qs70.1.F rfl) (qs70.1.F rfl) (qs70.1.F rfl) (qs70.1.F rfl) (qs70.1.F rfl) (qs70.1.F rfl) (qs70.1.F rfl) (qs70.1.F rfl) (fun i => qs70.1.A (f := 26) (by decide) rfl) (fun i => qs70.1.A (f := 34) (by decide) rfl) (fun i => qs70.1.A (f := 35) (by decide) rfl) (fun i => qs70.1.A (f := 36) (by decide) rfl) (fun i => qs70.1.A (f := 37) (by decide) rfl) (fun i => qs70.1.A (f := 40) (by decide) rfl) (qs70.1.FG g0 rfl) (qs70.1.FG g0 rfl) (qs70.1.FG g0 rfl) (qs70.1.FG g0 rfl) (qs70.1.FG g0 rfl) (fun i => qs70.1.AG (f := 10) g0 (by decide) rfl) (fun i => qs70.1.AG (f := 11) g0 (by decide) rfl) (fun i => qs70.1.AG (f := 31) g0 (by decide) rfl) (fun i => qs70.1.AG (f := 33) g0 (by decide) rfl) (fun i => qs70.1.AG (f := 34) g0 (by decide) rfl) (fun i => qs70.1.AG (f := 35) g0 (by decide) rfl) (RG.keep (c0 := 0) qs70.1 rfl rfl rfl rfl rfl rfl rfl rfl rfl rfl rfl rfl rfl rfl rfl rfl rfl rfl) qs70.2
                  refine z_aload_n hC (pc := 73) 1 dX14_readText_73 rfl rfl ?_
                  refine z_dup hC (pc := 74) dX14_readText_74 rfl ?_
                  refine y_get hC (pc := 75) zf14 rOb_0 29 (v := iv (rF s13 0 29)) dX14_readText_75 zw2496 (rv_i (Or.inl rfl) ((qs70.1.F rfl).trans rfl)) (kk := ?_)
                  have h := h (Ws13.f _ _)
                  refine z_iload hC (pc := 78) 0 dX14_readText_78 rfl ?_
                  obtain ⟨hT, hF⟩ := h
                  refine y_if_ge hC (pc := 80) 87 hv26 dX14_readText_80 (by decide) (fun c => ?_) (fun c => ?_)
                  · have h := hT c
                    refine z_iconst hC (pc := 87) (v := Int32.ofInt 1) dX14_readText_87 (by decide) ?_
                    refine y_iadd hC (pc := 88) (v := ((rF s13 0 29) + 1)) dX14_readText_88 rfl ?_
                    obtain ⟨r135, h⟩ := h
                    refine y_putI hC (pc := 89) zf14 rOb_0 29 (x := ((rF s13 0 29) + 1)) dX14_readText_89 zw2496 (Or.inl rfl) rfl rfl (kk := ?_)
                    have W136 := Ws70.sF (q := 0) (f := 29) (x := ((rF s13 0 29) + 1)) r135
                    refine z_iconst hC (pc := 92) (v := Int32.ofInt 0) dX14_readText_92 (by decide) ?_
                    refine z_istore hC (pc := 93) (lv' := [(4, iv 0), (5, iv v26), (0, .ref (κ 0)), (1, iv x1), (2, iv y13_2), (3, iv y13_3)]) dX14_readText_93 (by decide) rfl ?_
                    refine z_goto hC (pc := 95) 250 dX14_readText_95 (by decide) ?_
                    refine z_goto hC (pc := 250) 13 dX14_readText_250 (by decide) ?_
                    refine z_lvs [2, 3, 4, 5, 0] rfl ?_
                    obtain ⟨hI, hm⟩ := h
                    exact ih13 (sF s70 0 29 ((rF s13 0 29) + 1)) y13_2 y13_3 0 W136 hy13_2 hy13_3 (r_lit rfl) (rKeep.tr (rKeep.tr (rKeep.tr rKeep.rf kJ rfl rfl rfl rfl rfl) qs70.1 rfl rfl rfl rfl rfl) (rKeep.sF0 (f := 29)) rfl rfl rfl rfl rfl) hI (by omega)
                  · have h := hF c
                    refine z_iconst hC (pc := 83) (v := Int32.ofInt 0) dX14_readText_83 (by decide) ?_
                    refine z_goto hC (pc := 84) 88 dX14_readText_84 (by decide) ?_
                    refine y_iadd hC (pc := 88) (v := ((rF s13 0 29) + 0)) dX14_readText_88 rfl ?_
                    obtain ⟨r137, h⟩ := h
                    refine y_putI hC (pc := 89) zf14 rOb_0 29 (x := ((rF s13 0 29) + 0)) dX14_readText_89 zw2496 (Or.inl rfl) rfl rfl (kk := ?_)
                    have W138 := Ws70.sF (q := 0) (f := 29) (x := ((rF s13 0 29) + 0)) r137
                    refine z_iconst hC (pc := 92) (v := Int32.ofInt 0) dX14_readText_92 (by decide) ?_
                    refine z_istore hC (pc := 93) (lv' := [(4, iv 0), (5, iv v26), (0, .ref (κ 0)), (1, iv x1), (2, iv y13_2), (3, iv y13_3)]) dX14_readText_93 (by decide) rfl ?_
                    refine z_goto hC (pc := 95) 250 dX14_readText_95 (by decide) ?_
                    refine z_goto hC (pc := 250) 13 dX14_readText_250 (by decide) ?_
                    refine z_lvs [2, 3, 4, 5, 0] rfl ?_
                    obtain ⟨hI, hm⟩ := h
                    exact ih13 (sF s70 0 29 ((rF s13 0 29) + 0)) y13_2 y13_3 0 W138 hy13_2 hy13_3 (r_lit rfl) (rKeep.tr (rKeep.tr (rKeep.tr rKeep.rf kJ rfl rfl rfl rfl rfl) qs70.1 rfl rfl rfl rfl rfl) (rKeep.sF0 (f := 29)) rfl rfl rfl rfl rfl) hI (by omega)
                · have h := hF c
                  refine z_iload_n hC (pc := 55) 2 dX14_readText_55 rfl rfl ?_
                  obtain ⟨hT, hF⟩ := h
                  refine y_if_eq hC (pc := 56) 73 hx1 dX14_readText_56 (by decide) (fun c => ?_) (fun c => ?_)
                  · have h := hT c
                    refine z_aload_n hC (pc := 73) 1 dX14_readText_73 rfl rfl ?_
                    refine z_dup hC (pc := 74) dX14_readText_74 rfl ?_
                    refine y_get hC (pc := 75) zf14 rOb_0 29 (v := iv (rF s13 0 29)) dX14_readText_75 zw2496 (rv_i (Or.inl rfl) rfl) (kk := ?_)
                    have h := h (Ws13.f _ _)
                    refine z_iload hC (pc := 78) 0 dX14_readText_78 rfl ?_
                    obtain ⟨hT, hF⟩ := h
                    refine y_if_ge hC (pc := 80) 87 hv26 dX14_readText_80 (by decide) (fun c => ?_) (fun c => ?_)
                    · have h := hT c
                      refine z_iconst hC (pc := 87) (v := Int32.ofInt 1) dX14_readText_87 (by decide) ?_
                      refine y_iadd hC (pc := 88) (v := ((rF s13 0 29) + 1)) dX14_readText_88 rfl ?_
                      obtain ⟨r139, h⟩ := h
                      refine y_putI hC (pc := 89) zf14 rOb_0 29 (x := ((rF s13 0 29) + 1)) dX14_readText_89 zw2496 (Or.inl rfl) rfl rfl (kk := ?_)
                      have W140 := Ws13.sF (q := 0) (f := 29) (x := ((rF s13 0 29) + 1)) r139
                      refine z_iconst hC (pc := 92) (v := Int32.ofInt 0) dX14_readText_92 (by decide) ?_
                      refine z_istore hC (pc := 93) (lv' := [(4, iv 0), (5, iv v26), (0, .ref (κ 0)), (1, iv x1), (2, iv y13_2), (3, iv y13_3)]) dX14_readText_93 (by decide) rfl ?_
                      refine z_goto hC (pc := 95) 250 dX14_readText_95 (by decide) ?_
                      refine z_goto hC (pc := 250) 13 dX14_readText_250 (by decide) ?_
                      refine z_lvs [2, 3, 4, 5, 0] rfl ?_
                      obtain ⟨hI, hm⟩ := h
                      exact ih13 (sF s13 0 29 ((rF s13 0 29) + 1)) y13_2 y13_3 0 W140 hy13_2 hy13_3 (r_lit rfl) (rKeep.tr (rKeep.tr rKeep.rf kJ rfl rfl rfl rfl rfl) (rKeep.sF0 (f := 29)) rfl rfl rfl rfl rfl) hI (by omega)
                    · have h := hF c
                      refine z_iconst hC (pc := 83) (v := Int32.ofInt 0) dX14_readText_83 (by decide) ?_
                      refine z_goto hC (pc := 84) 88 dX14_readText_84 (by decide) ?_
                      refine y_iadd hC (pc := 88) (v := ((rF s13 0 29) + 0)) dX14_readText_88 rfl ?_
                      obtain ⟨r141, h⟩ := h
                      refine y_putI hC (pc := 89) zf14 rOb_0 29 (x := ((rF s13 0 29) + 0)) dX14_readText_89 zw2496 (Or.inl rfl) rfl rfl (kk := ?_)
                      have W142 := Ws13.sF (q := 0) (f := 29) (x := ((rF s13 0 29) + 0)) r141
                      refine z_iconst hC (pc := 92) (v := Int32.ofInt 0) dX14_readText_92 (by decide) ?_
                      refine z_istore hC (pc := 93) (lv' := [(4, iv 0), (5, iv v26), (0, .ref (κ 0)), (1, iv x1), (2, iv y13_2), (3, iv y13_3)]) dX14_readText_93 (by decide) rfl ?_
                      refine z_goto hC (pc := 95) 250 dX14_readText_95 (by decide) ?_
                      refine z_goto hC (pc := 250) 13 dX14_readText_250 (by decide) ?_
                      refine z_lvs [2, 3, 4, 5, 0] rfl ?_
                      obtain ⟨hI, hm⟩ := h
                      exact ih13 (sF s13 0 29 ((rF s13 0 29) + 0)) y13_2 y13_3 0 W142 hy13_2 hy13_3 (r_lit rfl) (rKeep.tr (rKeep.tr rKeep.rf kJ rfl rfl rfl rfl rfl) (rKeep.sF0 (f := 29)) rfl rfl rfl rfl rfl) hI (by omega)
                  · have h := hF c
                    refine z_iload hC (pc := 59) 0 dX14_readText_59 rfl ?_
                    obtain ⟨hT, hF⟩ := h
                    refine y_if_ge hC (pc := 61) 73 hv26 dX14_readText_61 (by decide) (fun c => ?_) (fun c => ?_)
                    · have h := hT c
                      refine z_aload_n hC (pc := 73) 1 dX14_readText_73 rfl rfl ?_
                      refine z_dup hC (pc := 74) dX14_readText_74 rfl ?_
                      refine y_get hC (pc := 75) zf14 rOb_0 29 (v := iv (rF s13 0 29)) dX14_readText_75 zw2496 (rv_i (Or.inl rfl) rfl) (kk := ?_)
                      have h := h (Ws13.f _ _)
                      refine z_iload hC (pc := 78) 0 dX14_readText_78 rfl ?_
                      obtain ⟨hT, hF⟩ := h
                      refine y_if_ge hC (pc := 80) 87 hv26 dX14_readText_80 (by decide) (fun c => ?_) (fun c => ?_)
                      · have h := hT c
                        refine z_iconst hC (pc := 87) (v := Int32.ofInt 1) dX14_readText_87 (by decide) ?_
                        refine y_iadd hC (pc := 88) (v := ((rF s13 0 29) + 1)) dX14_readText_88 rfl ?_
                        obtain ⟨r143, h⟩ := h
                        refine y_putI hC (pc := 89) zf14 rOb_0 29 (x := ((rF s13 0 29) + 1)) dX14_readText_89 zw2496 (Or.inl rfl) rfl rfl (kk := ?_)
                        have W144 := Ws13.sF (q := 0) (f := 29) (x := ((rF s13 0 29) + 1)) r143
                        refine z_iconst hC (pc := 92) (v := Int32.ofInt 0) dX14_readText_92 (by decide) ?_
                        refine z_istore hC (pc := 93) (lv' := [(4, iv 0), (5, iv v26), (0, .ref (κ 0)), (1, iv x1), (2, iv y13_2), (3, iv y13_3)]) dX14_readText_93 (by decide) rfl ?_
                        refine z_goto hC (pc := 95) 250 dX14_readText_95 (by decide) ?_
                        refine z_goto hC (pc := 250) 13 dX14_readText_250 (by decide) ?_
                        refine z_lvs [2, 3, 4, 5, 0] rfl ?_
                        obtain ⟨hI, hm⟩ := h
                        exact ih13 (sF s13 0 29 ((rF s13 0 29) + 1)) y13_2 y13_3 0 W144 hy13_2 hy13_3 (r_lit rfl) (rKeep.tr (rKeep.tr rKeep.rf kJ rfl rfl rfl rfl rfl) (rKeep.sF0 (f := 29)) rfl rfl rfl rfl rfl) hI (by omega)
                      · have h := hF c
                        refine z_iconst hC (pc := 83) (v := Int32.ofInt 0) dX14_readText_83 (by decide) ?_
                        refine z_goto hC (pc := 84) 88 dX14_readText_84 (by decide) ?_
                        refine y_iadd hC (pc := 88) (v := ((rF s13 0 29) + 0)) dX14_readText_88 rfl ?_
                        obtain ⟨r145, h⟩ := h
                        refine y_putI hC (pc := 89) zf14 rOb_0 29 (x := ((rF s13 0 29) + 0)) dX14_readText_89 zw2496 (Or.inl rfl) rfl rfl (kk := ?_)
                        have W146 := Ws13.sF (q := 0) (f := 29) (x := ((rF s13 0 29) + 0)) r145
                        refine z_iconst hC (pc := 92) (v := Int32.ofInt 0) dX14_readText_92 (by decide) ?_
                        refine z_istore hC (pc := 93) (lv' := [(4, iv 0), (5, iv v26), (0, .ref (κ 0)), (1, iv x1), (2, iv y13_2), (3, iv y13_3)]) dX14_readText_93 (by decide) rfl ?_
                        refine z_goto hC (pc := 95) 250 dX14_readText_95 (by decide) ?_
                        refine z_goto hC (pc := 250) 13 dX14_readText_250 (by decide) ?_
                        refine z_lvs [2, 3, 4, 5, 0] rfl ?_
                        obtain ⟨hI, hm⟩ := h
                        exact ih13 (sF s13 0 29 ((rF s13 0 29) + 0)) y13_2 y13_3 0 W146 hy13_2 hy13_3 (r_lit rfl) (rKeep.tr (rKeep.tr rKeep.rf kJ rfl rfl rfl rfl rfl) (rKeep.sF0 (f := 29)) rfl rfl rfl rfl rfl) hI (by omega)
                    · have h := hF c
                      refine z_aload_n hC (pc := 64) 1 dX14_readText_64 rfl rfl ?_
                      refine z_iconst hC (pc := 65) (v := Int32.ofInt 1) dX14_readText_65 (by decide) ?_
                      refine z_aload_n hC (pc := 66) 1 dX14_readText_66 rfl rfl ?_
                      obtain ⟨p147, h⟩ := h
                      refine y_callVi hC (pc := 67) (As := []) (kX14_place l G κ s13  Ws13  p147) dmX14_place zf14 rOb_0 dX14_readText_67 zw3103 rfl rfl (Nat.le_of_ble_eq_true rfl) (Nat.le_of_ble_eq_true rfl) (by omega) (by omega) (Nat.le_of_ble_eq_true rfl) (kk := fun v67 s67 hv67 Ws67 qs67 => ?_)
                      obtain ⟨es67, qs67⟩ := qs67
                      have es67 := es67.symm
                      subst es67
                      have h := h v67 hv67 qs67
                      obtain ⟨p148, h⟩ := h
                      refine y_callVv hC (pc := 70) (As := [iv 1, iv v67]) (kX14_bad l G κ s13 1 v67 Ws13 (r_lit rfl) hv67 p148) dmX14_bad zf14 rOb_0 dX14_readText_70 zw3000 rfl rfl (Nat.le_of_ble_eq_true rfl) (Nat.le_of_ble_eq_true rfl) (by omega) (by omega) (Nat.le_of_ble_eq_true rfl) (kk := fun s70 Ws70 qs70 => ?_)
                      have h := h s70 Ws70 (rNMp.keep qs70.1 rfl rfl rfl rfl rfl) (TPRp.keep qs70.1 rfl rfl rfl) (WNp.keep qs70.1 rfl rfl rfl rfl rfl) (PNp.keep qs70.1 rfl rfl rfl rfl rfl) (CCp.keep qs70.1 rfl rfl rfl rfl rfl rfl rfl) (qs70.1.R rfl) (qs70.1.F rfl) (qs70.1.F rfl) (qs70.1.F rfl) (qs70.1.F rfl) (qs70.1.F rfl) (qs70.1.F rfl) (qs70.1.F rfl) (qs70.1.F rfl) (qs70.1.F rfl) (qs70.1.F rfl) (qs70.1.F rfl) (fun i => qs70.1.A (f := 26) (by decide) rfl) (fun i => qs70.1.A (f := 34) (by decide) rfl) (fun i => qs70.1.A (f := 35) (by decide) rfl) (fun i => qs70.1.A (f := 36) (by decide) rfl) (fun i => qs70.1.A (f := 37) (by decide) rfl) (fun i => qs70.1.A (f := 40) (by decide) rfl) (qs70.1.FG g0 rfl) (qs70.1.FG g0 rfl) (qs70.1.FG g0 rfl) (qs70.1.FG g0 rfl) (qs70.1.FG g0 rfl) (fun i => qs70.1.AG (f := 10) g0 (by decide) rfl) (fun i => qs70.1.AG (f := 11) g0 (by decide) rfl) (fun i => qs70.1.AG (f := 31) g0 (by decide) rfl) (fun i => qs70.1.AG (f := 33) g0 (by decide) rfl) (fun i => qs70.1.AG (f := 34) g0 (by decide) rfl) (fun i => qs70.1.AG (f := 35) g0 (by decide) rfl) (RG.keep (c0 := 0) qs70.1 rfl rfl rfl rfl rfl rfl rfl rfl rfl rfl rfl rfl rfl rfl rfl rfl rfl rfl) qs70.2
                      refine z_aload_n hC (pc := 73) 1 dX14_readText_73 rfl rfl ?_
                      refine z_dup hC (pc := 74) dX14_readText_74 rfl ?_
                      refine y_get hC (pc := 75) zf14 rOb_0 29 (v := iv (rF s13 0 29)) dX14_readText_75 zw2496 (rv_i (Or.inl rfl) ((qs70.1.F rfl).trans rfl)) (kk := ?_)
                      have h := h (Ws13.f _ _)
                      refine z_iload hC (pc := 78) 0 dX14_readText_78 rfl ?_
                      obtain ⟨hT, hF⟩ := h
                      refine y_if_ge hC (pc := 80) 87 hv26 dX14_readText_80 (by decide) (fun c => ?_) (fun c => ?_)
                      · have h := hT c
                        refine z_iconst hC (pc := 87) (v := Int32.ofInt 1) dX14_readText_87 (by decide) ?_
                        refine y_iadd hC (pc := 88) (v := ((rF s13 0 29) + 1)) dX14_readText_88 rfl ?_
                        obtain ⟨r149, h⟩ := h
                        refine y_putI hC (pc := 89) zf14 rOb_0 29 (x := ((rF s13 0 29) + 1)) dX14_readText_89 zw2496 (Or.inl rfl) rfl rfl (kk := ?_)
                        have W150 := Ws70.sF (q := 0) (f := 29) (x := ((rF s13 0 29) + 1)) r149
                        refine z_iconst hC (pc := 92) (v := Int32.ofInt 0) dX14_readText_92 (by decide) ?_
                        refine z_istore hC (pc := 93) (lv' := [(4, iv 0), (5, iv v26), (0, .ref (κ 0)), (1, iv x1), (2, iv y13_2), (3, iv y13_3)]) dX14_readText_93 (by decide) rfl ?_
                        refine z_goto hC (pc := 95) 250 dX14_readText_95 (by decide) ?_
                        refine z_goto hC (pc := 250) 13 dX14_readText_250 (by decide) ?_
                        refine z_lvs [2, 3, 4, 5, 0] rfl ?_
                        obtain ⟨hI, hm⟩ := h
                        exact ih13 (sF s70 0 29 ((rF s13 0 29) + 1)) y13_2 y13_3 0 W150 hy13_2 hy13_3 (r_lit rfl) (rKeep.tr (rKeep.tr (rKeep.tr rKeep.rf kJ rfl rfl rfl rfl rfl) qs70.1 rfl rfl rfl rfl rfl) (rKeep.sF0 (f := 29)) rfl rfl rfl rfl rfl) hI (by omega)
                      · have h := hF c
                        refine z_iconst hC (pc := 83) (v := Int32.ofInt 0) dX14_readText_83 (by decide) ?_
                        refine z_goto hC (pc := 84) 88 dX14_readText_84 (by decide) ?_
                        refine y_iadd hC (pc := 88) (v := ((rF s13 0 29) + 0)) dX14_readText_88 rfl ?_
                        obtain ⟨r151, h⟩ := h
                        refine y_putI hC (pc := 89) zf14 rOb_0 29 (x := ((rF s13 0 29) + 0)) dX14_readText_89 zw2496 (Or.inl rfl) rfl rfl (kk := ?_)
                        have W152 := Ws70.sF (q := 0) (f := 29) (x := ((rF s13 0 29) + 0)) r151
                        refine z_iconst hC (pc := 92) (v := Int32.ofInt 0) dX14_readText_92 (by decide) ?_
                        refine z_istore hC (pc := 93) (lv' := [(4, iv 0), (5, iv v26), (0, .ref (κ 0)), (1, iv x1), (2, iv y13_2), (3, iv y13_3)]) dX14_readText_93 (by decide) rfl ?_
                        refine z_goto hC (pc := 95) 250 dX14_readText_95 (by decide) ?_
                        refine z_goto hC (pc := 250) 13 dX14_readText_250 (by decide) ?_
                        refine z_lvs [2, 3, 4, 5, 0] rfl ?_
                        obtain ⟨hI, hm⟩ := h
                        exact ih13 (sF s70 0 29 ((rF s13 0 29) + 0)) y13_2 y13_3 0 W152 hy13_2 hy13_3 (r_lit rfl) (rKeep.tr (rKeep.tr (rKeep.tr rKeep.rf kJ rfl rfl rfl rfl rfl) qs70.1 rfl rfl rfl rfl rfl) (rKeep.sF0 (f := 29)) rfl rfl rfl rfl rfl) hI (by omega)
  refine z_lvs [3, 4, 2, 1, 0] rfl ?_
  exact j13 _ σ (rF σ 0 38) (rF σ 0 39) 1 hwf (hwf.f _ _) (hwf.f _ _) (r_lit rfl) rKeep.rf h (Nat.le_refl _)
theorem kX14_readText (l : Launch) (G : zG) (κ : Nat → Nat) (n : Nat) (ih : Q_rd l G κ n) (σ : rS) (x1 : Int) (gg : Nat) (g : Nat → Int → Int) (hwf : rWF σ) (hx1 : rng x1) (hp : pre_X14_readText σ x1 gg g) (hr : rk_X14_readText σ x1 gg g ≤ n + 1) : rMi l G κ yX14_readText cX14_readText 6 .int (n + 1 + 100) ((n + 1) * 40 + 3600) [.ref (κ 0), iv x1] σ (fun x s => rKeep 0x6c0a3001c00 0x4100001280 0x13c00000000 0x3ee0000d7f 0 σ s ∧ post_X14_readText σ x1 gg g x s) := wX14_readText l G κ n ih σ x1 gg g hwf hx1 (post_X14_readText σ x1 gg g) (vX14_readText n σ x1 gg g hwf hx1 hp hr) (vX14_readText_13 n σ x1 gg g hwf hx1 hp hr) (vX14_readText_13m n σ x1 gg g hwf hx1 hp hr)
