theorem wX14_readSteering (l : Launch) (G : zG) (κ : Nat → Nat) (n : Nat) (ih : Q_rd l G κ n) (σ : rS) (x1 : Int) (x2 : Int) (gg : Nat) (g : Nat → Int → Int) (L : List Int) (hwf : rWF σ) (hx1 : rng x1) (hx2 : rng x2) (Q : rS → Prop) (h : VC_X14_readSteering n σ x1 x2 gg g L Q) : rMv l G κ yX14_readSteering cX14_readSteering 5 (n + 1 + 100) ((n + 1) * 40 + 3600) [.ref (κ 0), iv x1, iv x2] σ (fun s => rKeep 0x6c0a3001c00 0x4100001280 0x13c00000000 0x3ee0000d7f 0 σ s ∧ Q s) := by
  refine zMv.intro (by decide +kernel) (Nat.le_of_ble_eq_true rfl) (fun X hC hR => ?_)
  obtain ⟨g0, h⟩ := h
  refine z_aload_n hC (pc := 0) 0 dX14_readSteering_0 rfl rfl ?_
  obtain ⟨p10, h⟩ := h
  refine y_callVi hC (pc := 1) (As := []) (kX14_place l G κ σ  hwf  p10) dmX14_place zf14 rOb_0 dX14_readSteering_1 zw3103 rfl rfl (Nat.le_of_ble_eq_true rfl) (Nat.le_of_ble_eq_true rfl) (by omega) (by omega) (Nat.le_of_ble_eq_true rfl) (kk := fun v1 s1 hv1 Ws1 qs1 => ?_)
  obtain ⟨es1, qs1⟩ := qs1
  have es1 := es1.symm
  subst es1
  have h := h v1 hv1 qs1
  refine z_istore_n hC (pc := 4) (lv' := [(3, iv v1), (0, .ref (κ 0)), (1, iv x1), (2, iv x2)]) dX14_readSteering_4 rfl (by decide) rfl ?_
  refine z_aload_n hC (pc := 5) 1 dX14_readSteering_5 rfl rfl ?_
  refine z_ldcSw hC (pc := 6) dX14_readSteering_6 zS_46 ?_
  obtain ⟨p11, h⟩ := h
  refine y_callVi hC (pc := 9) (As := [.ref (G.2.2 93)]) (kX14_isWord_t l G κ σ (G.2.2 93) 2 hwf (rSt_46 G) p11) dmX14_isWord zf14 rOb_0 dX14_readSteering_9 zw3128 rfl rfl (Nat.le_of_ble_eq_true rfl) (Nat.le_of_ble_eq_true rfl) (by omega) (by omega) (Nat.le_of_ble_eq_true rfl) (kk := fun v9 s9 hv9 Ws9 qs9 => ?_)
  obtain ⟨es9, qs9⟩ := qs9
  have es9 := es9.symm
  subst es9
  have h := h v9 hv9 qs9
  obtain ⟨hT, hF⟩ := h
  refine y_if_eq hC (pc := 12) 95 hv9 dX14_readSteering_12 (by decide) (fun c => ?_) (fun c => ?_)
  · have h := hT c
    refine z_aload_n hC (pc := 95) 1 dX14_readSteering_95 rfl rfl ?_
    refine z_ldcSw hC (pc := 96) dX14_readSteering_96 zS_47 ?_
    obtain ⟨p12, h⟩ := h
    refine y_callVi hC (pc := 99) (As := [.ref (G.2.2 95)]) (kX14_isWord_t l G κ σ (G.2.2 95) 6 hwf (rSt_47 G) p12) dmX14_isWord zf14 rOb_0 dX14_readSteering_99 zw3128 rfl rfl (Nat.le_of_ble_eq_true rfl) (Nat.le_of_ble_eq_true rfl) (by omega) (by omega) (Nat.le_of_ble_eq_true rfl) (kk := fun v99 s99 hv99 Ws99 qs99 => ?_)
    obtain ⟨es99, qs99⟩ := qs99
    have es99 := es99.symm
    subst es99
    have h := h v99 hv99 qs99
    obtain ⟨hT, hF⟩ := h
    refine y_if_eq hC (pc := 102) 185 hv99 dX14_readSteering_102 (by decide) (fun c => ?_) (fun c => ?_)
    · have h := hT c
      refine z_aload_n hC (pc := 185) 1 dX14_readSteering_185 rfl rfl ?_
      refine z_ldcSw hC (pc := 186) dX14_readSteering_186 zS_48 ?_
      obtain ⟨p13, h⟩ := h
      refine y_callVi hC (pc := 189) (As := [.ref (G.2.2 97)]) (kX14_isWord_t l G κ σ (G.2.2 97) 4 hwf (rSt_48 G) p13) dmX14_isWord zf14 rOb_0 dX14_readSteering_189 zw3128 rfl rfl (Nat.le_of_ble_eq_true rfl) (Nat.le_of_ble_eq_true rfl) (by omega) (by omega) (Nat.le_of_ble_eq_true rfl) (kk := fun v189 s189 hv189 Ws189 qs189 => ?_)
      obtain ⟨es189, qs189⟩ := qs189
      have es189 := es189.symm
      subst es189
      have h := h v189 hv189 qs189
      obtain ⟨hT, hF⟩ := h
      refine y_if_eq hC (pc := 192) 260 hv189 dX14_readSteering_192 (by decide) (fun c => ?_) (fun c => ?_)
      · have h := hT c
        refine z_aload_n hC (pc := 260) 1 dX14_readSteering_260 rfl rfl ?_
        refine z_iconst hC (pc := 261) (v := Int32.ofInt 5) dX14_readSteering_261 (by decide) ?_
        refine z_iload_n hC (pc := 262) 3 dX14_readSteering_262 rfl rfl ?_
        obtain ⟨p14, h⟩ := h
        refine y_callVi hC (pc := 263) (As := [iv 5, iv x2]) (kX14_isOpen l G κ σ 5 x2 hwf (r_lit rfl) hx2 p14) dmX14_isOpen zf14 rOb_0 dX14_readSteering_263 zw3132 rfl rfl (Nat.le_of_ble_eq_true rfl) (Nat.le_of_ble_eq_true rfl) (by omega) (by omega) (Nat.le_of_ble_eq_true rfl) (kk := fun v263 s263 hv263 Ws263 qs263 => ?_)
        obtain ⟨es263, qs263⟩ := qs263
        have es263 := es263.symm
        subst es263
        have h := h v263 hv263 qs263
        obtain ⟨hT, hF⟩ := h
        refine y_if_ne hC (pc := 266) 285 hv263 dX14_readSteering_266 (by decide) (fun c => ?_) (fun c => ?_)
        · have h := hT c
          refine z_aload_n hC (pc := 285) 1 dX14_readSteering_285 rfl rfl ?_
          refine z_dup hC (pc := 286) dX14_readSteering_286 rfl ?_
          refine y_get hC (pc := 287) zf14 rOb_0 29 (v := iv (rF σ 0 29)) dX14_readSteering_287 zw2496 (rv_i (Or.inl rfl) rfl) (kk := ?_)
          have h := h (hwf.f _ _)
          refine z_iconst hC (pc := 290) (v := Int32.ofInt 5) dX14_readSteering_290 (by decide) ?_
          refine y_iadd hC (pc := 291) (v := ((rF σ 0 29) + 5)) dX14_readSteering_291 rfl ?_
          obtain ⟨r15, h⟩ := h
          refine y_putI hC (pc := 292) zf14 rOb_0 29 (x := ((rF σ 0 29) + 5)) dX14_readSteering_292 zw2496 (Or.inl rfl) rfl rfl (kk := ?_)
          have W16 := hwf.sF (q := 0) (f := 29) (x := ((rF σ 0 29) + 5)) r15
          refine z_aload_n hC (pc := 295) 1 dX14_readSteering_295 rfl rfl ?_
          refine z_aload_n hC (pc := 296) 1 dX14_readSteering_296 rfl rfl ?_
          refine y_get hC (pc := 297) zf14 rOb_0 19 (v := iv (rF σ 0 19)) dX14_readSteering_297 zw2486 (rv_i (Or.inl rfl) ((F_sF_ne (by decide)).trans rfl)) (kk := ?_)
          have h := h (hwf.f _ _)
          obtain ⟨p17, h⟩ := h
          refine y_callVv hC (pc := 300) (As := [iv (rF σ 0 19)]) (kX14_need l G κ (sF σ 0 29 ((rF σ 0 29) + 5)) (rF σ 0 19) W16 (hwf.f _ _) p17) dmX14_need zf14 rOb_0 dX14_readSteering_300 zw3136 rfl rfl (Nat.le_of_ble_eq_true rfl) (Nat.le_of_ble_eq_true rfl) (by omega) (by omega) (Nat.le_of_ble_eq_true rfl) (kk := fun s300 Ws300 qs300 => ?_)
          have h := h s300 Ws300 (rNMp.keep qs300.1 rfl rfl rfl rfl rfl) (TPRp.keep qs300.1 rfl rfl rfl) (WNp.keep qs300.1 rfl rfl rfl rfl rfl) (PNp.keep qs300.1 rfl rfl rfl rfl rfl) (CCp.keep qs300.1 rfl rfl rfl rfl rfl rfl rfl) (qs300.1.R rfl) (qs300.1.F rfl) (qs300.1.F rfl) (qs300.1.F rfl) (qs300.1.F rfl) (qs300.1.F rfl) (qs300.1.F rfl) (qs300.1.F rfl) (qs300.1.F rfl) (qs300.1.F rfl) (fun i => qs300.1.A (f := 26) (by decide) rfl) (fun i => qs300.1.A (f := 34) (by decide) rfl) (fun i => qs300.1.A (f := 35) (by decide) rfl) (fun i => qs300.1.A (f := 37) (by decide) rfl) (fun i => qs300.1.A (f := 40) (by decide) rfl) (qs300.1.FG g0 rfl) (qs300.1.FG g0 rfl) (qs300.1.FG g0 rfl) (qs300.1.FG g0 rfl) (qs300.1.FG g0 rfl) (RG.keep (c0 := 0) qs300.1 rfl rfl rfl rfl rfl rfl rfl rfl rfl rfl rfl rfl rfl rfl rfl rfl rfl rfl) qs300.2
          refine z_aload_n hC (pc := 303) 1 dX14_readSteering_303 rfl rfl ?_
          refine y_get hC (pc := 304) zf14 rOb_0 10 (v := iv (rF s300 0 10)) dX14_readSteering_304 zw2478 (rv_i (Or.inl rfl) rfl) (kk := ?_)
          have h := h (Ws300.f _ _)
          obtain ⟨hT, hF⟩ := h
          refine y_if_eq hC (pc := 307) 311 (Ws300.f _ _) dX14_readSteering_307 (by decide) (fun c => ?_) (fun c => ?_)
          · have h := hT c
            refine z_aload_n hC (pc := 311) 1 dX14_readSteering_311 rfl rfl ?_
            refine z_dup hC (pc := 312) dX14_readSteering_312 rfl ?_
            refine y_get hC (pc := 313) zf14 rOb_0 39 (v := iv (rF s300 0 39)) dX14_readSteering_313 zw2506 (rv_i (Or.inl rfl) rfl) (kk := ?_)
            have h := h (Ws300.f _ _)
            refine z_iconst hC (pc := 316) (v := Int32.ofInt 1) dX14_readSteering_316 (by decide) ?_
            refine y_isub hC (pc := 317) (v := ((rF s300 0 39) - 1)) dX14_readSteering_317 rfl ?_
            obtain ⟨r18, h⟩ := h
            refine y_putI hC (pc := 318) zf14 rOb_0 39 (x := ((rF s300 0 39) - 1)) dX14_readSteering_318 zw2506 (Or.inl rfl) rfl rfl (kk := ?_)
            have W19 := Ws300.sF (q := 0) (f := 39) (x := ((rF s300 0 39) - 1)) r18
            refine z_aload_n hC (pc := 321) 1 dX14_readSteering_321 rfl rfl ?_
            refine z_dup hC (pc := 322) dX14_readSteering_322 rfl ?_
            refine y_get hC (pc := 323) zf14 rOb_0 31 (v := iv (rF σ 0 31)) dX14_readSteering_323 zw2498 (rv_i (Or.inl rfl) ((F_sF_ne (by decide)).trans ((qs300.1.F rfl).trans ((F_sF_ne (by decide)).trans rfl)))) (kk := ?_)
            have h := h (hwf.f _ _)
            refine z_iconst hC (pc := 326) (v := Int32.ofInt 1) dX14_readSteering_326 (by decide) ?_
            refine y_isub hC (pc := 327) (v := ((rF σ 0 31) - 1)) dX14_readSteering_327 rfl ?_
            obtain ⟨r20, h⟩ := h
            refine y_putI hC (pc := 328) zf14 rOb_0 31 (x := ((rF σ 0 31) - 1)) dX14_readSteering_328 zw2498 (Or.inl rfl) rfl rfl (kk := ?_)
            have W21 := W19.sF (q := 0) (f := 31) (x := ((rF σ 0 31) - 1)) r20
            refine z_aload_n hC (pc := 331) 1 dX14_readSteering_331 rfl rfl ?_
            refine z_bipush hC (pc := 332) (v := Int32.ofInt 24) dX14_readSteering_332 (by decide) ?_
            refine z_iconst hC (pc := 334) (v := Int32.ofInt 0) dX14_readSteering_334 (by decide) ?_
            refine z_iload_n hC (pc := 335) 2 dX14_readSteering_335 rfl rfl ?_
            obtain ⟨p22, h⟩ := h
            refine y_callVv hC (pc := 336) (As := [iv 24, iv 0, iv x1]) (kX14_note_t l G κ (sF (sF s300 0 39 ((rF s300 0 39) - 1)) 0 31 ((rF σ 0 31) - 1)) 24 0 x1 gg W21 (r_lit rfl) (r_lit rfl) hx1 p22) dmX14_note zf14 rOb_0 dX14_readSteering_336 zw3111 rfl rfl (Nat.le_of_ble_eq_true rfl) (Nat.le_of_ble_eq_true rfl) (by omega) (by omega) (Nat.le_of_ble_eq_true rfl) (kk := fun s336 Ws336 qs336 => ?_)
            have h := h s336 Ws336 (rNMp.keep qs336.1 rfl rfl rfl rfl rfl) (TPRp.keep qs336.1 rfl rfl rfl) (PNp.keep qs336.1 rfl rfl rfl rfl rfl) (CCp.keep qs336.1 rfl rfl rfl rfl rfl rfl rfl) (qs336.1.R rfl) (qs336.1.F rfl) (qs336.1.F rfl) (qs336.1.F rfl) (qs336.1.F rfl) (qs336.1.F rfl) (qs336.1.F rfl) (qs336.1.F rfl) (qs336.1.F rfl) (qs336.1.F rfl) (qs336.1.F rfl) (fun i => qs336.1.A (f := 26) (by decide) rfl) (fun i => qs336.1.A (f := 40) (by decide) rfl) (qs336.1.FG g0 rfl) (qs336.1.FG g0 rfl) (qs336.1.FG g0 rfl) (qs336.1.FG g0 rfl) (qs336.1.FG g0 rfl) (fz_keep qs336.1 rfl) qs336.2
            exact y_retv hR dX14_readSteering_339 Ws336 (Nat.le_of_ble_eq_true rfl) (Nat.le_of_ble_eq_true rfl) ⟨(rKeep.tr (rKeep.tr (rKeep.tr (rKeep.tr (rKeep.tr rKeep.rf (rKeep.sF0 (f := 29)) rfl rfl rfl rfl rfl) qs300.1 rfl rfl rfl rfl rfl) (rKeep.sF0 (f := 39)) rfl rfl rfl rfl rfl) (rKeep.sF0 (f := 31)) rfl rfl rfl rfl rfl) qs336.1 rfl rfl rfl rfl rfl), h⟩
          · have h := hF c
            exact y_retv hR dX14_readSteering_310 Ws300 (Nat.le_of_ble_eq_true rfl) (Nat.le_of_ble_eq_true rfl) ⟨(rKeep.tr (rKeep.tr rKeep.rf (rKeep.sF0 (f := 29)) rfl rfl rfl rfl rfl) qs300.1 rfl rfl rfl rfl rfl), h⟩
        · have h := hF c
          refine z_aload_n hC (pc := 269) 1 dX14_readSteering_269 rfl rfl ?_
          refine z_bipush hC (pc := 270) (v := Int32.ofInt 23) dX14_readSteering_270 (by decide) ?_
          refine z_iload_n hC (pc := 272) 3 dX14_readSteering_272 rfl rfl ?_
          obtain ⟨p23, h⟩ := h
          refine y_callVi hC (pc := 273) (As := [iv 23, iv x2]) (kX14_isOpen l G κ σ 23 x2 hwf (r_lit rfl) hx2 p23) dmX14_isOpen zf14 rOb_0 dX14_readSteering_273 zw3132 rfl rfl (Nat.le_of_ble_eq_true rfl) (Nat.le_of_ble_eq_true rfl) (by omega) (by omega) (Nat.le_of_ble_eq_true rfl) (kk := fun v273 s273 hv273 Ws273 qs273 => ?_)
          obtain ⟨es273, qs273⟩ := qs273
          have es273 := es273.symm
          subst es273
          have h := h v273 hv273 qs273
          obtain ⟨hT, hF⟩ := h
          refine y_if_ne hC (pc := 276) 285 hv273 dX14_readSteering_276 (by decide) (fun c => ?_) (fun c => ?_)
          · have h := hT c
            refine z_aload_n hC (pc := 285) 1 dX14_readSteering_285 rfl rfl ?_
            refine z_dup hC (pc := 286) dX14_readSteering_286 rfl ?_
            refine y_get hC (pc := 287) zf14 rOb_0 29 (v := iv (rF σ 0 29)) dX14_readSteering_287 zw2496 (rv_i (Or.inl rfl) rfl) (kk := ?_)
            have h := h (hwf.f _ _)
            refine z_iconst hC (pc := 290) (v := Int32.ofInt 5) dX14_readSteering_290 (by decide) ?_
            refine y_iadd hC (pc := 291) (v := ((rF σ 0 29) + 5)) dX14_readSteering_291 rfl ?_
            obtain ⟨r24, h⟩ := h
            refine y_putI hC (pc := 292) zf14 rOb_0 29 (x := ((rF σ 0 29) + 5)) dX14_readSteering_292 zw2496 (Or.inl rfl) rfl rfl (kk := ?_)
            have W25 := hwf.sF (q := 0) (f := 29) (x := ((rF σ 0 29) + 5)) r24
            refine z_aload_n hC (pc := 295) 1 dX14_readSteering_295 rfl rfl ?_
            refine z_aload_n hC (pc := 296) 1 dX14_readSteering_296 rfl rfl ?_
            refine y_get hC (pc := 297) zf14 rOb_0 19 (v := iv (rF σ 0 19)) dX14_readSteering_297 zw2486 (rv_i (Or.inl rfl) ((F_sF_ne (by decide)).trans rfl)) (kk := ?_)
            have h := h (hwf.f _ _)
            obtain ⟨p26, h⟩ := h
            refine y_callVv hC (pc := 300) (As := [iv (rF σ 0 19)]) (kX14_need l G κ (sF σ 0 29 ((rF σ 0 29) + 5)) (rF σ 0 19) W25 (hwf.f _ _) p26) dmX14_need zf14 rOb_0 dX14_readSteering_300 zw3136 rfl rfl (Nat.le_of_ble_eq_true rfl) (Nat.le_of_ble_eq_true rfl) (by omega) (by omega) (Nat.le_of_ble_eq_true rfl) (kk := fun s300 Ws300 qs300 => ?_)
            have h := h s300 Ws300 (rNMp.keep qs300.1 rfl rfl rfl rfl rfl) (TPRp.keep qs300.1 rfl rfl rfl) (WNp.keep qs300.1 rfl rfl rfl rfl rfl) (PNp.keep qs300.1 rfl rfl rfl rfl rfl) (CCp.keep qs300.1 rfl rfl rfl rfl rfl rfl rfl) (qs300.1.R rfl) (qs300.1.F rfl) (qs300.1.F rfl) (qs300.1.F rfl) (qs300.1.F rfl) (qs300.1.F rfl) (qs300.1.F rfl) (qs300.1.F rfl) (qs300.1.F rfl) (qs300.1.F rfl) (fun i => qs300.1.A (f := 26) (by decide) rfl) (fun i => qs300.1.A (f := 34) (by decide) rfl) (fun i => qs300.1.A (f := 35) (by decide) rfl) (fun i => qs300.1.A (f := 37) (by decide) rfl) (fun i => qs300.1.A (f := 40) (by decide) rfl) (qs300.1.FG g0 rfl) (qs300.1.FG g0 rfl) (qs300.1.FG g0 rfl) (qs300.1.FG g0 rfl) (qs300.1.FG g0 rfl) (RG.keep (c0 := 0) qs300.1 rfl rfl rfl rfl rfl rfl rfl rfl rfl rfl rfl rfl rfl rfl rfl rfl rfl rfl) qs300.2
            refine z_aload_n hC (pc := 303) 1 dX14_readSteering_303 rfl rfl ?_
            refine y_get hC (pc := 304) zf14 rOb_0 10 (v := iv (rF s300 0 10)) dX14_readSteering_304 zw2478 (rv_i (Or.inl rfl) rfl) (kk := ?_)
            have h := h (Ws300.f _ _)
            obtain ⟨hT, hF⟩ := h
            refine y_if_eq hC (pc := 307) 311 (Ws300.f _ _) dX14_readSteering_307 (by decide) (fun c => ?_) (fun c => ?_)
            · have h := hT c
              refine z_aload_n hC (pc := 311) 1 dX14_readSteering_311 rfl rfl ?_
              refine z_dup hC (pc := 312) dX14_readSteering_312 rfl ?_
              refine y_get hC (pc := 313) zf14 rOb_0 39 (v := iv (rF s300 0 39)) dX14_readSteering_313 zw2506 (rv_i (Or.inl rfl) rfl) (kk := ?_)
              have h := h (Ws300.f _ _)
              refine z_iconst hC (pc := 316) (v := Int32.ofInt 1) dX14_readSteering_316 (by decide) ?_
              refine y_isub hC (pc := 317) (v := ((rF s300 0 39) - 1)) dX14_readSteering_317 rfl ?_
              obtain ⟨r27, h⟩ := h
              refine y_putI hC (pc := 318) zf14 rOb_0 39 (x := ((rF s300 0 39) - 1)) dX14_readSteering_318 zw2506 (Or.inl rfl) rfl rfl (kk := ?_)
              have W28 := Ws300.sF (q := 0) (f := 39) (x := ((rF s300 0 39) - 1)) r27
              refine z_aload_n hC (pc := 321) 1 dX14_readSteering_321 rfl rfl ?_
              refine z_dup hC (pc := 322) dX14_readSteering_322 rfl ?_
              refine y_get hC (pc := 323) zf14 rOb_0 31 (v := iv (rF σ 0 31)) dX14_readSteering_323 zw2498 (rv_i (Or.inl rfl) ((F_sF_ne (by decide)).trans ((qs300.1.F rfl).trans ((F_sF_ne (by decide)).trans rfl)))) (kk := ?_)
              have h := h (hwf.f _ _)
              refine z_iconst hC (pc := 326) (v := Int32.ofInt 1) dX14_readSteering_326 (by decide) ?_
              refine y_isub hC (pc := 327) (v := ((rF σ 0 31) - 1)) dX14_readSteering_327 rfl ?_
              obtain ⟨r29, h⟩ := h
              refine y_putI hC (pc := 328) zf14 rOb_0 31 (x := ((rF σ 0 31) - 1)) dX14_readSteering_328 zw2498 (Or.inl rfl) rfl rfl (kk := ?_)
              have W30 := W28.sF (q := 0) (f := 31) (x := ((rF σ 0 31) - 1)) r29
              refine z_aload_n hC (pc := 331) 1 dX14_readSteering_331 rfl rfl ?_
              refine z_bipush hC (pc := 332) (v := Int32.ofInt 24) dX14_readSteering_332 (by decide) ?_
              refine z_iconst hC (pc := 334) (v := Int32.ofInt 0) dX14_readSteering_334 (by decide) ?_
              refine z_iload_n hC (pc := 335) 2 dX14_readSteering_335 rfl rfl ?_
              obtain ⟨p31, h⟩ := h
              refine y_callVv hC (pc := 336) (As := [iv 24, iv 0, iv x1]) (kX14_note_t l G κ (sF (sF s300 0 39 ((rF s300 0 39) - 1)) 0 31 ((rF σ 0 31) - 1)) 24 0 x1 gg W30 (r_lit rfl) (r_lit rfl) hx1 p31) dmX14_note zf14 rOb_0 dX14_readSteering_336 zw3111 rfl rfl (Nat.le_of_ble_eq_true rfl) (Nat.le_of_ble_eq_true rfl) (by omega) (by omega) (Nat.le_of_ble_eq_true rfl) (kk := fun s336 Ws336 qs336 => ?_)
              have h := h s336 Ws336 (rNMp.keep qs336.1 rfl rfl rfl rfl rfl) (TPRp.keep qs336.1 rfl rfl rfl) (PNp.keep qs336.1 rfl rfl rfl rfl rfl) (CCp.keep qs336.1 rfl rfl rfl rfl rfl rfl rfl) (qs336.1.R rfl) (qs336.1.F rfl) (qs336.1.F rfl) (qs336.1.F rfl) (qs336.1.F rfl) (qs336.1.F rfl) (qs336.1.F rfl) (qs336.1.F rfl) (qs336.1.F rfl) (qs336.1.F rfl) (qs336.1.F rfl) (fun i => qs336.1.A (f := 26) (by decide) rfl) (fun i => qs336.1.A (f := 40) (by decide) rfl) (qs336.1.FG g0 rfl) (qs336.1.FG g0 rfl) (qs336.1.FG g0 rfl) (qs336.1.FG g0 rfl) (qs336.1.FG g0 rfl) (fz_keep qs336.1 rfl) qs336.2
              exact y_retv hR dX14_readSteering_339 Ws336 (Nat.le_of_ble_eq_true rfl) (Nat.le_of_ble_eq_true rfl) ⟨(rKeep.tr (rKeep.tr (rKeep.tr (rKeep.tr (rKeep.tr rKeep.rf (rKeep.sF0 (f := 29)) rfl rfl rfl rfl rfl) qs300.1 rfl rfl rfl rfl rfl) (rKeep.sF0 (f := 39)) rfl rfl rfl rfl rfl) (rKeep.sF0 (f := 31)) rfl rfl rfl rfl rfl) qs336.1 rfl rfl rfl rfl rfl), h⟩
            · have h := hF c
              exact y_retv hR dX14_readSteering_310 Ws300 (Nat.le_of_ble_eq_true rfl) (Nat.le_of_ble_eq_true rfl) ⟨(rKeep.tr (rKeep.tr rKeep.rf (rKeep.sF0 (f := 29)) rfl rfl rfl rfl rfl) qs300.1 rfl rfl rfl rfl rfl), h⟩
          · have h := hF c
            refine z_aload_n hC (pc := 279) 1 dX14_readSteering_279 rfl rfl ?_
            refine z_iconst hC (pc := 280) (v := Int32.ofInt 1) dX14_readSteering_280 (by decide) ?_
            refine z_iload_n hC (pc := 281) 0 dX14_readSteering_281 rfl rfl ?_
            obtain ⟨p32, h⟩ := h
            refine y_callVv hC (pc := 282) (As := [iv 1, iv v1]) (kX14_bad l G κ σ 1 v1 hwf (r_lit rfl) hv1 p32) dmX14_bad zf14 rOb_0 dX14_readSteering_282 zw3000 rfl rfl (Nat.le_of_ble_eq_true rfl) (Nat.le_of_ble_eq_true rfl) (by omega) (by omega) (Nat.le_of_ble_eq_true rfl) (kk := fun s282 Ws282 qs282 => ?_)
            have h := h s282 Ws282 (rNMp.keep qs282.1 rfl rfl rfl rfl rfl) (TPRp.keep qs282.1 rfl rfl rfl) (WNp.keep qs282.1 rfl rfl rfl rfl rfl) (PNp.keep qs282.1 rfl rfl rfl rfl rfl) (CCp.keep qs282.1 rfl rfl rfl rfl rfl rfl rfl) (qs282.1.R rfl) (qs282.1.F rfl) (qs282.1.F rfl) (qs282.1.F rfl) (qs282.1.F rfl) (qs282.1.F rfl) (qs282.1.F rfl) (qs282.1.F rfl) (qs282.1.F rfl) (qs282.1.F rfl) (qs282.1.F rfl) (fun i => qs282.1.A (f := 26) (by decide) rfl) (fun i => qs282.1.A (f := 34) (by decide) rfl) (fun i => qs282.1.A (f := 35) (by decide) rfl) (fun i => qs282.1.A (f := 37) (by decide) rfl) (fun i => qs282.1.A (f := 40) (by decide) rfl) (qs282.1.FG g0 rfl) (qs282.1.FG g0 rfl) (qs282.1.FG g0 rfl) (qs282.1.FG g0 rfl) (qs282.1.FG g0 rfl) (RG.keep (c0 := 0) qs282.1 rfl rfl rfl rfl rfl rfl rfl rfl rfl rfl rfl rfl rfl rfl rfl rfl rfl rfl) qs282.2
            refine z_aload_n hC (pc := 285) 1 dX14_readSteering_285 rfl rfl ?_
            refine z_dup hC (pc := 286) dX14_readSteering_286 rfl ?_
            refine y_get hC (pc := 287) zf14 rOb_0 29 (v := iv (rF σ 0 29)) dX14_readSteering_287 zw2496 (rv_i (Or.inl rfl) ((qs282.1.F rfl).trans rfl)) (kk := ?_)
            have h := h (hwf.f _ _)
            refine z_iconst hC (pc := 290) (v := Int32.ofInt 5) dX14_readSteering_290 (by decide) ?_
            refine y_iadd hC (pc := 291) (v := ((rF σ 0 29) + 5)) dX14_readSteering_291 rfl ?_
            obtain ⟨r33, h⟩ := h
            refine y_putI hC (pc := 292) zf14 rOb_0 29 (x := ((rF σ 0 29) + 5)) dX14_readSteering_292 zw2496 (Or.inl rfl) rfl rfl (kk := ?_)
            have W34 := Ws282.sF (q := 0) (f := 29) (x := ((rF σ 0 29) + 5)) r33
            refine z_aload_n hC (pc := 295) 1 dX14_readSteering_295 rfl rfl ?_
            refine z_aload_n hC (pc := 296) 1 dX14_readSteering_296 rfl rfl ?_
            refine y_get hC (pc := 297) zf14 rOb_0 19 (v := iv (rF s282 0 19)) dX14_readSteering_297 zw2486 (rv_i (Or.inl rfl) ((F_sF_ne (by decide)).trans rfl)) (kk := ?_)
            have h := h (Ws282.f _ _)
            obtain ⟨p35, h⟩ := h
            refine y_callVv hC (pc := 300) (As := [iv (rF s282 0 19)]) (kX14_need l G κ (sF s282 0 29 ((rF σ 0 29) + 5)) (rF s282 0 19) W34 (Ws282.f _ _) p35) dmX14_need zf14 rOb_0 dX14_readSteering_300 zw3136 rfl rfl (Nat.le_of_ble_eq_true rfl) (Nat.le_of_ble_eq_true rfl) (by omega) (by omega) (Nat.le_of_ble_eq_true rfl) (kk := fun s300 Ws300 qs300 => ?_)
            have h := h s300 Ws300 (rNMp.keep qs300.1 rfl rfl rfl rfl rfl) (TPRp.keep qs300.1 rfl rfl rfl) (WNp.keep qs300.1 rfl rfl rfl rfl rfl) (PNp.keep qs300.1 rfl rfl rfl rfl rfl) (CCp.keep qs300.1 rfl rfl rfl rfl rfl rfl rfl) (qs300.1.R rfl) (qs300.1.F rfl) (qs300.1.F rfl) (qs300.1.F rfl) (qs300.1.F rfl) (qs300.1.F rfl) (qs300.1.F rfl) (qs300.1.F rfl) (qs300.1.F rfl) (qs300.1.F rfl) (fun i => qs300.1.A (f := 26) (by decide) rfl) (fun i => qs300.1.A (f := 34) (by decide) rfl) (fun i => qs300.1.A (f := 35) (by decide) rfl) (fun i => qs300.1.A (f := 37) (by decide) rfl) (fun i => qs300.1.A (f := 40) (by decide) rfl) (qs300.1.FG g0 rfl) (qs300.1.FG g0 rfl) (qs300.1.FG g0 rfl) (qs300.1.FG g0 rfl) (qs300.1.FG g0 rfl) (RG.keep (c0 := 0) qs300.1 rfl rfl rfl rfl rfl rfl rfl rfl rfl rfl rfl rfl rfl rfl rfl rfl rfl rfl) qs300.2
            refine z_aload_n hC (pc := 303) 1 dX14_readSteering_303 rfl rfl ?_
            refine y_get hC (pc := 304) zf14 rOb_0 10 (v := iv (rF s300 0 10)) dX14_readSteering_304 zw2478 (rv_i (Or.inl rfl) rfl) (kk := ?_)
            have h := h (Ws300.f _ _)
            obtain ⟨hT, hF⟩ := h
            refine y_if_eq hC (pc := 307) 311 (Ws300.f _ _) dX14_readSteering_307 (by decide) (fun c => ?_) (fun c => ?_)
            · have h := hT c
              refine z_aload_n hC (pc := 311) 1 dX14_readSteering_311 rfl rfl ?_
              refine z_dup hC (pc := 312) dX14_readSteering_312 rfl ?_
              refine y_get hC (pc := 313) zf14 rOb_0 39 (v := iv (rF s300 0 39)) dX14_readSteering_313 zw2506 (rv_i (Or.inl rfl) rfl) (kk := ?_)
              have h := h (Ws300.f _ _)
              refine z_iconst hC (pc := 316) (v := Int32.ofInt 1) dX14_readSteering_316 (by decide) ?_
              refine y_isub hC (pc := 317) (v := ((rF s300 0 39) - 1)) dX14_readSteering_317 rfl ?_
              obtain ⟨r36, h⟩ := h
              refine y_putI hC (pc := 318) zf14 rOb_0 39 (x := ((rF s300 0 39) - 1)) dX14_readSteering_318 zw2506 (Or.inl rfl) rfl rfl (kk := ?_)
              have W37 := Ws300.sF (q := 0) (f := 39) (x := ((rF s300 0 39) - 1)) r36
              refine z_aload_n hC (pc := 321) 1 dX14_readSteering_321 rfl rfl ?_
              refine z_dup hC (pc := 322) dX14_readSteering_322 rfl ?_
              refine y_get hC (pc := 323) zf14 rOb_0 31 (v := iv (rF σ 0 31)) dX14_readSteering_323 zw2498 (rv_i (Or.inl rfl) ((F_sF_ne (by decide)).trans ((qs300.1.F rfl).trans ((F_sF_ne (by decide)).trans ((qs282.1.F rfl).trans rfl))))) (kk := ?_)
              have h := h (hwf.f _ _)
              refine z_iconst hC (pc := 326) (v := Int32.ofInt 1) dX14_readSteering_326 (by decide) ?_
              refine y_isub hC (pc := 327) (v := ((rF σ 0 31) - 1)) dX14_readSteering_327 rfl ?_
              obtain ⟨r38, h⟩ := h
              refine y_putI hC (pc := 328) zf14 rOb_0 31 (x := ((rF σ 0 31) - 1)) dX14_readSteering_328 zw2498 (Or.inl rfl) rfl rfl (kk := ?_)
              have W39 := W37.sF (q := 0) (f := 31) (x := ((rF σ 0 31) - 1)) r38
              refine z_aload_n hC (pc := 331) 1 dX14_readSteering_331 rfl rfl ?_
              refine z_bipush hC (pc := 332) (v := Int32.ofInt 24) dX14_readSteering_332 (by decide) ?_
              refine z_iconst hC (pc := 334) (v := Int32.ofInt 0) dX14_readSteering_334 (by decide) ?_
              refine z_iload_n hC (pc := 335) 2 dX14_readSteering_335 rfl rfl ?_
              obtain ⟨p40, h⟩ := h
              refine y_callVv hC (pc := 336) (As := [iv 24, iv 0, iv x1]) (kX14_note_t l G κ (sF (sF s300 0 39 ((rF s300 0 39) - 1)) 0 31 ((rF σ 0 31) - 1)) 24 0 x1 gg W39 (r_lit rfl) (r_lit rfl) hx1 p40) dmX14_note zf14 rOb_0 dX14_readSteering_336 zw3111 rfl rfl (Nat.le_of_ble_eq_true rfl) (Nat.le_of_ble_eq_true rfl) (by omega) (by omega) (Nat.le_of_ble_eq_true rfl) (kk := fun s336 Ws336 qs336 => ?_)
              have h := h s336 Ws336 (rNMp.keep qs336.1 rfl rfl rfl rfl rfl) (TPRp.keep qs336.1 rfl rfl rfl) (PNp.keep qs336.1 rfl rfl rfl rfl rfl) (CCp.keep qs336.1 rfl rfl rfl rfl rfl rfl rfl) (qs336.1.R rfl) (qs336.1.F rfl) (qs336.1.F rfl) (qs336.1.F rfl) (qs336.1.F rfl) (qs336.1.F rfl) (qs336.1.F rfl) (qs336.1.F rfl) (qs336.1.F rfl) (qs336.1.F rfl) (qs336.1.F rfl) (fun i => qs336.1.A (f := 26) (by decide) rfl) (fun i => qs336.1.A (f := 40) (by decide) rfl) (qs336.1.FG g0 rfl) (qs336.1.FG g0 rfl) (qs336.1.FG g0 rfl) (qs336.1.FG g0 rfl) (qs336.1.FG g0 rfl) (fz_keep qs336.1 rfl) qs336.2
              exact y_retv hR dX14_readSteering_339 Ws336 (Nat.le_of_ble_eq_true rfl) (Nat.le_of_ble_eq_true rfl) ⟨(rKeep.tr (rKeep.tr (rKeep.tr (rKeep.tr (rKeep.tr (rKeep.tr rKeep.rf qs282.1 rfl rfl rfl rfl rfl) (rKeep.sF0 (f := 29)) rfl rfl rfl rfl rfl) qs300.1 rfl rfl rfl rfl rfl) (rKeep.sF0 (f := 39)) rfl rfl rfl rfl rfl) (rKeep.sF0 (f := 31)) rfl rfl rfl rfl rfl) qs336.1 rfl rfl rfl rfl rfl), h⟩
            · have h := hF c
              exact y_retv hR dX14_readSteering_310 Ws300 (Nat.le_of_ble_eq_true rfl) (Nat.le_of_ble_eq_true rfl) ⟨(rKeep.tr (rKeep.tr (rKeep.tr rKeep.rf qs282.1 rfl rfl rfl rfl rfl) (rKeep.sF0 (f := 29)) rfl rfl rfl rfl rfl) qs300.1 rfl rfl rfl rfl rfl), h⟩
      · have h := hF c
        refine z_aload_n hC (pc := 195) 1 dX14_readSteering_195 rfl rfl ?_
        refine z_iconst hC (pc := 196) (v := Int32.ofInt 5) dX14_readSteering_196 (by decide) ?_
        refine z_iload_n hC (pc := 197) 3 dX14_readSteering_197 rfl rfl ?_
        obtain ⟨p41, h⟩ := h
        refine y_callVi hC (pc := 198) (As := [iv 5, iv x2]) (kX14_isOpen l G κ σ 5 x2 hwf (r_lit rfl) hx2 p41) dmX14_isOpen zf14 rOb_0 dX14_readSteering_198 zw3132 rfl rfl (Nat.le_of_ble_eq_true rfl) (Nat.le_of_ble_eq_true rfl) (by omega) (by omega) (Nat.le_of_ble_eq_true rfl) (kk := fun v198 s198 hv198 Ws198 qs198 => ?_)
        obtain ⟨es198, qs198⟩ := qs198
        have es198 := es198.symm
        subst es198
        have h := h v198 hv198 qs198
        obtain ⟨hT, hF⟩ := h
        refine y_if_ne hC (pc := 201) 210 hv198 dX14_readSteering_201 (by decide) (fun c => ?_) (fun c => ?_)
        · have h := hT c
          refine z_aload_n hC (pc := 210) 1 dX14_readSteering_210 rfl rfl ?_
          refine z_dup hC (pc := 211) dX14_readSteering_211 rfl ?_
          refine y_get hC (pc := 212) zf14 rOb_0 29 (v := iv (rF σ 0 29)) dX14_readSteering_212 zw2496 (rv_i (Or.inl rfl) rfl) (kk := ?_)
          have h := h (hwf.f _ _)
          refine z_iconst hC (pc := 215) (v := Int32.ofInt 4) dX14_readSteering_215 (by decide) ?_
          refine y_iadd hC (pc := 216) (v := ((rF σ 0 29) + 4)) dX14_readSteering_216 rfl ?_
          obtain ⟨r42, h⟩ := h
          refine y_putI hC (pc := 217) zf14 rOb_0 29 (x := ((rF σ 0 29) + 4)) dX14_readSteering_217 zw2496 (Or.inl rfl) rfl rfl (kk := ?_)
          have W43 := hwf.sF (q := 0) (f := 29) (x := ((rF σ 0 29) + 4)) r42
          refine z_aload_n hC (pc := 220) 1 dX14_readSteering_220 rfl rfl ?_
          refine z_aload_n hC (pc := 221) 1 dX14_readSteering_221 rfl rfl ?_
          refine y_get hC (pc := 222) zf14 rOb_0 19 (v := iv (rF σ 0 19)) dX14_readSteering_222 zw2486 (rv_i (Or.inl rfl) ((F_sF_ne (by decide)).trans rfl)) (kk := ?_)
          have h := h (hwf.f _ _)
          obtain ⟨p44, h⟩ := h
          refine y_callVv hC (pc := 225) (As := [iv (rF σ 0 19)]) (kX14_need l G κ (sF σ 0 29 ((rF σ 0 29) + 4)) (rF σ 0 19) W43 (hwf.f _ _) p44) dmX14_need zf14 rOb_0 dX14_readSteering_225 zw3136 rfl rfl (Nat.le_of_ble_eq_true rfl) (Nat.le_of_ble_eq_true rfl) (by omega) (by omega) (Nat.le_of_ble_eq_true rfl) (kk := fun s225 Ws225 qs225 => ?_)
          have h := h s225 Ws225 (rNMp.keep qs225.1 rfl rfl rfl rfl rfl) (TPRp.keep qs225.1 rfl rfl rfl) (WNp.keep qs225.1 rfl rfl rfl rfl rfl) (PNp.keep qs225.1 rfl rfl rfl rfl rfl) (CCp.keep qs225.1 rfl rfl rfl rfl rfl rfl rfl) (qs225.1.R rfl) (qs225.1.F rfl) (qs225.1.F rfl) (qs225.1.F rfl) (qs225.1.F rfl) (qs225.1.F rfl) (qs225.1.F rfl) (qs225.1.F rfl) (qs225.1.F rfl) (qs225.1.F rfl) (fun i => qs225.1.A (f := 26) (by decide) rfl) (fun i => qs225.1.A (f := 34) (by decide) rfl) (fun i => qs225.1.A (f := 35) (by decide) rfl) (fun i => qs225.1.A (f := 37) (by decide) rfl) (fun i => qs225.1.A (f := 40) (by decide) rfl) (qs225.1.FG g0 rfl) (qs225.1.FG g0 rfl) (qs225.1.FG g0 rfl) (qs225.1.FG g0 rfl) (qs225.1.FG g0 rfl) (RG.keep (c0 := 0) qs225.1 rfl rfl rfl rfl rfl rfl rfl rfl rfl rfl rfl rfl rfl rfl rfl rfl rfl rfl) qs225.2
          refine z_aload_n hC (pc := 228) 1 dX14_readSteering_228 rfl rfl ?_
          refine y_get hC (pc := 229) zf14 rOb_0 10 (v := iv (rF s225 0 10)) dX14_readSteering_229 zw2478 (rv_i (Or.inl rfl) rfl) (kk := ?_)
          have h := h (Ws225.f _ _)
          obtain ⟨hT, hF⟩ := h
          refine y_if_eq hC (pc := 232) 236 (Ws225.f _ _) dX14_readSteering_232 (by decide) (fun c => ?_) (fun c => ?_)
          · have h := hT c
            refine z_aload_n hC (pc := 236) 1 dX14_readSteering_236 rfl rfl ?_
            refine y_get hC (pc := 237) zf14 rOb_0 40 (v := .ref (κ 1040)) dX14_readSteering_237 zw2507 (rv_c rfl) (kk := ?_)
            refine z_aload_n hC (pc := 240) 1 dX14_readSteering_240 rfl rfl ?_
            refine y_get hC (pc := 241) zf14 rOb_0 39 (v := iv (rF s225 0 39)) dX14_readSteering_241 zw2506 (rv_i (Or.inl rfl) rfl) (kk := ?_)
            have h := h (Ws225.f _ _)
            refine z_iconst hC (pc := 244) (v := Int32.ofInt 1) dX14_readSteering_244 (by decide) ?_
            refine y_isub hC (pc := 245) (v := ((rF s225 0 39) - 1)) dX14_readSteering_245 rfl ?_
            refine z_bipush hC (pc := 246) (v := Int32.ofInt 23) dX14_readSteering_246 (by decide) ?_
            obtain ⟨b45, h⟩ := h
            refine y_iast hC (pc := 248) (rAr_m rfl) dX14_readSteering_248 b45 (v := 23) (kk := ?_)
            have W46 := Ws225.sA (p := 1040) (i := ((rF s225 0 39) - 1)) (x := 23) (r_lit rfl)
            refine z_aload_n hC (pc := 249) 1 dX14_readSteering_249 rfl rfl ?_
            refine z_bipush hC (pc := 250) (v := Int32.ofInt 23) dX14_readSteering_250 (by decide) ?_
            refine z_iconst hC (pc := 252) (v := Int32.ofInt 0) dX14_readSteering_252 (by decide) ?_
            refine z_iload_n hC (pc := 253) 2 dX14_readSteering_253 rfl rfl ?_
            obtain ⟨p47, h⟩ := h
            refine y_callVv hC (pc := 254) (As := [iv 23, iv 0, iv x1]) (kX14_note_t l G κ (sA s225 1040 ((rF s225 0 39) - 1) 23) 23 0 x1 gg W46 (r_lit rfl) (r_lit rfl) hx1 p47) dmX14_note zf14 rOb_0 dX14_readSteering_254 zw3111 rfl rfl (Nat.le_of_ble_eq_true rfl) (Nat.le_of_ble_eq_true rfl) (by omega) (by omega) (Nat.le_of_ble_eq_true rfl) (kk := fun s254 Ws254 qs254 => ?_)
            have h := h s254 Ws254 (rNMp.keep qs254.1 rfl rfl rfl rfl rfl) (TPRp.keep qs254.1 rfl rfl rfl) (PNp.keep qs254.1 rfl rfl rfl rfl rfl) (CCp.keep qs254.1 rfl rfl rfl rfl rfl rfl rfl) (qs254.1.R rfl) (qs254.1.F rfl) (qs254.1.F rfl) (qs254.1.F rfl) (qs254.1.F rfl) (qs254.1.F rfl) (qs254.1.F rfl) (qs254.1.F rfl) (qs254.1.F rfl) (qs254.1.F rfl) (qs254.1.F rfl) (fun i => qs254.1.A (f := 26) (by decide) rfl) (fun i => qs254.1.A (f := 40) (by decide) rfl) (qs254.1.FG g0 rfl) (qs254.1.FG g0 rfl) (qs254.1.FG g0 rfl) (qs254.1.FG g0 rfl) (qs254.1.FG g0 rfl) (fz_keep qs254.1 rfl) qs254.2
            refine z_goto hC (pc := 257) 339 dX14_readSteering_257 (by decide) ?_
            exact y_retv hR dX14_readSteering_339 Ws254 (Nat.le_of_ble_eq_true rfl) (Nat.le_of_ble_eq_true rfl) ⟨(rKeep.tr (rKeep.tr (rKeep.tr (rKeep.tr rKeep.rf (rKeep.sF0 (f := 29)) rfl rfl rfl rfl rfl) qs225.1 rfl rfl rfl rfl rfl) (rKeep.sA0 (f := 40) (by decide)) rfl rfl rfl rfl rfl) qs254.1 rfl rfl rfl rfl rfl), h⟩
          · have h := hF c
            exact y_retv hR dX14_readSteering_235 Ws225 (Nat.le_of_ble_eq_true rfl) (Nat.le_of_ble_eq_true rfl) ⟨(rKeep.tr (rKeep.tr rKeep.rf (rKeep.sF0 (f := 29)) rfl rfl rfl rfl rfl) qs225.1 rfl rfl rfl rfl rfl), h⟩
        · have h := hF c
          refine z_aload_n hC (pc := 204) 1 dX14_readSteering_204 rfl rfl ?_
          refine z_iconst hC (pc := 205) (v := Int32.ofInt 1) dX14_readSteering_205 (by decide) ?_
          refine z_iload_n hC (pc := 206) 0 dX14_readSteering_206 rfl rfl ?_
          obtain ⟨p48, h⟩ := h
          refine y_callVv hC (pc := 207) (As := [iv 1, iv v1]) (kX14_bad l G κ σ 1 v1 hwf (r_lit rfl) hv1 p48) dmX14_bad zf14 rOb_0 dX14_readSteering_207 zw3000 rfl rfl (Nat.le_of_ble_eq_true rfl) (Nat.le_of_ble_eq_true rfl) (by omega) (by omega) (Nat.le_of_ble_eq_true rfl) (kk := fun s207 Ws207 qs207 => ?_)
          have h := h s207 Ws207 (rNMp.keep qs207.1 rfl rfl rfl rfl rfl) (TPRp.keep qs207.1 rfl rfl rfl) (WNp.keep qs207.1 rfl rfl rfl rfl rfl) (PNp.keep qs207.1 rfl rfl rfl rfl rfl) (CCp.keep qs207.1 rfl rfl rfl rfl rfl rfl rfl) (qs207.1.R rfl) (qs207.1.F rfl) (qs207.1.F rfl) (qs207.1.F rfl) (qs207.1.F rfl) (qs207.1.F rfl) (qs207.1.F rfl) (qs207.1.F rfl) (qs207.1.F rfl) (qs207.1.F rfl) (qs207.1.F rfl) (fun i => qs207.1.A (f := 26) (by decide) rfl) (fun i => qs207.1.A (f := 34) (by decide) rfl) (fun i => qs207.1.A (f := 35) (by decide) rfl) (fun i => qs207.1.A (f := 37) (by decide) rfl) (fun i => qs207.1.A (f := 40) (by decide) rfl) (qs207.1.FG g0 rfl) (qs207.1.FG g0 rfl) (qs207.1.FG g0 rfl) (qs207.1.FG g0 rfl) (qs207.1.FG g0 rfl) (RG.keep (c0 := 0) qs207.1 rfl rfl rfl rfl rfl rfl rfl rfl rfl rfl rfl rfl rfl rfl rfl rfl rfl rfl) qs207.2
          refine z_aload_n hC (pc := 210) 1 dX14_readSteering_210 rfl rfl ?_
          refine z_dup hC (pc := 211) dX14_readSteering_211 rfl ?_
          refine y_get hC (pc := 212) zf14 rOb_0 29 (v := iv (rF σ 0 29)) dX14_readSteering_212 zw2496 (rv_i (Or.inl rfl) ((qs207.1.F rfl).trans rfl)) (kk := ?_)
          have h := h (hwf.f _ _)
          refine z_iconst hC (pc := 215) (v := Int32.ofInt 4) dX14_readSteering_215 (by decide) ?_
          refine y_iadd hC (pc := 216) (v := ((rF σ 0 29) + 4)) dX14_readSteering_216 rfl ?_
          obtain ⟨r49, h⟩ := h
          refine y_putI hC (pc := 217) zf14 rOb_0 29 (x := ((rF σ 0 29) + 4)) dX14_readSteering_217 zw2496 (Or.inl rfl) rfl rfl (kk := ?_)
          have W50 := Ws207.sF (q := 0) (f := 29) (x := ((rF σ 0 29) + 4)) r49
          refine z_aload_n hC (pc := 220) 1 dX14_readSteering_220 rfl rfl ?_
          refine z_aload_n hC (pc := 221) 1 dX14_readSteering_221 rfl rfl ?_
          refine y_get hC (pc := 222) zf14 rOb_0 19 (v := iv (rF s207 0 19)) dX14_readSteering_222 zw2486 (rv_i (Or.inl rfl) ((F_sF_ne (by decide)).trans rfl)) (kk := ?_)
          have h := h (Ws207.f _ _)
          obtain ⟨p51, h⟩ := h
          refine y_callVv hC (pc := 225) (As := [iv (rF s207 0 19)]) (kX14_need l G κ (sF s207 0 29 ((rF σ 0 29) + 4)) (rF s207 0 19) W50 (Ws207.f _ _) p51) dmX14_need zf14 rOb_0 dX14_readSteering_225 zw3136 rfl rfl (Nat.le_of_ble_eq_true rfl) (Nat.le_of_ble_eq_true rfl) (by omega) (by omega) (Nat.le_of_ble_eq_true rfl) (kk := fun s225 Ws225 qs225 => ?_)
          have h := h s225 Ws225 (rNMp.keep qs225.1 rfl rfl rfl rfl rfl) (TPRp.keep qs225.1 rfl rfl rfl) (WNp.keep qs225.1 rfl rfl rfl rfl rfl) (PNp.keep qs225.1 rfl rfl rfl rfl rfl) (CCp.keep qs225.1 rfl rfl rfl rfl rfl rfl rfl) (qs225.1.R rfl) (qs225.1.F rfl) (qs225.1.F rfl) (qs225.1.F rfl) (qs225.1.F rfl) (qs225.1.F rfl) (qs225.1.F rfl) (qs225.1.F rfl) (qs225.1.F rfl) (qs225.1.F rfl) (fun i => qs225.1.A (f := 26) (by decide) rfl) (fun i => qs225.1.A (f := 34) (by decide) rfl) (fun i => qs225.1.A (f := 35) (by decide) rfl) (fun i => qs225.1.A (f := 37) (by decide) rfl) (fun i => qs225.1.A (f := 40) (by decide) rfl) (qs225.1.FG g0 rfl) (qs225.1.FG g0 rfl) (qs225.1.FG g0 rfl) (qs225.1.FG g0 rfl) (qs225.1.FG g0 rfl) (RG.keep (c0 := 0) qs225.1 rfl rfl rfl rfl rfl rfl rfl rfl rfl rfl rfl rfl rfl rfl rfl rfl rfl rfl) qs225.2
          refine z_aload_n hC (pc := 228) 1 dX14_readSteering_228 rfl rfl ?_
          refine y_get hC (pc := 229) zf14 rOb_0 10 (v := iv (rF s225 0 10)) dX14_readSteering_229 zw2478 (rv_i (Or.inl rfl) rfl) (kk := ?_)
          have h := h (Ws225.f _ _)
          obtain ⟨hT, hF⟩ := h
          refine y_if_eq hC (pc := 232) 236 (Ws225.f _ _) dX14_readSteering_232 (by decide) (fun c => ?_) (fun c => ?_)
          · have h := hT c
            refine z_aload_n hC (pc := 236) 1 dX14_readSteering_236 rfl rfl ?_
            refine y_get hC (pc := 237) zf14 rOb_0 40 (v := .ref (κ 1040)) dX14_readSteering_237 zw2507 (rv_c rfl) (kk := ?_)
            refine z_aload_n hC (pc := 240) 1 dX14_readSteering_240 rfl rfl ?_
            refine y_get hC (pc := 241) zf14 rOb_0 39 (v := iv (rF s225 0 39)) dX14_readSteering_241 zw2506 (rv_i (Or.inl rfl) rfl) (kk := ?_)
            have h := h (Ws225.f _ _)
            refine z_iconst hC (pc := 244) (v := Int32.ofInt 1) dX14_readSteering_244 (by decide) ?_
            refine y_isub hC (pc := 245) (v := ((rF s225 0 39) - 1)) dX14_readSteering_245 rfl ?_
            refine z_bipush hC (pc := 246) (v := Int32.ofInt 23) dX14_readSteering_246 (by decide) ?_
            obtain ⟨b52, h⟩ := h
            refine y_iast hC (pc := 248) (rAr_m rfl) dX14_readSteering_248 b52 (v := 23) (kk := ?_)
            have W53 := Ws225.sA (p := 1040) (i := ((rF s225 0 39) - 1)) (x := 23) (r_lit rfl)
            refine z_aload_n hC (pc := 249) 1 dX14_readSteering_249 rfl rfl ?_
            refine z_bipush hC (pc := 250) (v := Int32.ofInt 23) dX14_readSteering_250 (by decide) ?_
            refine z_iconst hC (pc := 252) (v := Int32.ofInt 0) dX14_readSteering_252 (by decide) ?_
            refine z_iload_n hC (pc := 253) 2 dX14_readSteering_253 rfl rfl ?_
            obtain ⟨p54, h⟩ := h
            refine y_callVv hC (pc := 254) (As := [iv 23, iv 0, iv x1]) (kX14_note_t l G κ (sA s225 1040 ((rF s225 0 39) - 1) 23) 23 0 x1 gg W53 (r_lit rfl) (r_lit rfl) hx1 p54) dmX14_note zf14 rOb_0 dX14_readSteering_254 zw3111 rfl rfl (Nat.le_of_ble_eq_true rfl) (Nat.le_of_ble_eq_true rfl) (by omega) (by omega) (Nat.le_of_ble_eq_true rfl) (kk := fun s254 Ws254 qs254 => ?_)
            have h := h s254 Ws254 (rNMp.keep qs254.1 rfl rfl rfl rfl rfl) (TPRp.keep qs254.1 rfl rfl rfl) (PNp.keep qs254.1 rfl rfl rfl rfl rfl) (CCp.keep qs254.1 rfl rfl rfl rfl rfl rfl rfl) (qs254.1.R rfl) (qs254.1.F rfl) (qs254.1.F rfl) (qs254.1.F rfl) (qs254.1.F rfl) (qs254.1.F rfl) (qs254.1.F rfl) (qs254.1.F rfl) (qs254.1.F rfl) (qs254.1.F rfl) (qs254.1.F rfl) (fun i => qs254.1.A (f := 26) (by decide) rfl) (fun i => qs254.1.A (f := 40) (by decide) rfl) (qs254.1.FG g0 rfl) (qs254.1.FG g0 rfl) (qs254.1.FG g0 rfl) (qs254.1.FG g0 rfl) (qs254.1.FG g0 rfl) (fz_keep qs254.1 rfl) qs254.2
            refine z_goto hC (pc := 257) 339 dX14_readSteering_257 (by decide) ?_
            exact y_retv hR dX14_readSteering_339 Ws254 (Nat.le_of_ble_eq_true rfl) (Nat.le_of_ble_eq_true rfl) ⟨(rKeep.tr (rKeep.tr (rKeep.tr (rKeep.tr (rKeep.tr rKeep.rf qs207.1 rfl rfl rfl rfl rfl) (rKeep.sF0 (f := 29)) rfl rfl rfl rfl rfl) qs225.1 rfl rfl rfl rfl rfl) (rKeep.sA0 (f := 40) (by decide)) rfl rfl rfl rfl rfl) qs254.1 rfl rfl rfl rfl rfl), h⟩
          · have h := hF c
            exact y_retv hR dX14_readSteering_235 Ws225 (Nat.le_of_ble_eq_true rfl) (Nat.le_of_ble_eq_true rfl) ⟨(rKeep.tr (rKeep.tr (rKeep.tr rKeep.rf qs207.1 rfl rfl rfl rfl rfl) (rKeep.sF0 (f := 29)) rfl rfl rfl rfl rfl) qs225.1 rfl rfl rfl rfl rfl), h⟩
    · have h := hF c
      refine z_aload_n hC (pc := 105) 1 dX14_readSteering_105 rfl rfl ?_
      refine z_iconst hC (pc := 106) (v := Int32.ofInt 5) dX14_readSteering_106 (by decide) ?_
      refine z_iload_n hC (pc := 107) 3 dX14_readSteering_107 rfl rfl ?_
      obtain ⟨p55, h⟩ := h
      refine y_callVi hC (pc := 108) (As := [iv 5, iv x2]) (kX14_isOpen l G κ σ 5 x2 hwf (r_lit rfl) hx2 p55) dmX14_isOpen zf14 rOb_0 dX14_readSteering_108 zw3132 rfl rfl (Nat.le_of_ble_eq_true rfl) (Nat.le_of_ble_eq_true rfl) (by omega) (by omega) (Nat.le_of_ble_eq_true rfl) (kk := fun v108 s108 hv108 Ws108 qs108 => ?_)
      obtain ⟨es108, qs108⟩ := qs108
      have es108 := es108.symm
      subst es108
      have h := h v108 hv108 qs108
      obtain ⟨hT, hF⟩ := h
      refine y_if_ne hC (pc := 111) 120 hv108 dX14_readSteering_111 (by decide) (fun c => ?_) (fun c => ?_)
      · have h := hT c
        refine z_aload_n hC (pc := 120) 1 dX14_readSteering_120 rfl rfl ?_
        refine y_get hC (pc := 121) zf14 rOb_0 10 (v := iv (rF σ 0 10)) dX14_readSteering_121 zw2478 (rv_i (Or.inl rfl) rfl) (kk := ?_)
        have h := h (hwf.f _ _)
        obtain ⟨hT, hF⟩ := h
        refine y_if_eq hC (pc := 124) 128 (hwf.f _ _) dX14_readSteering_124 (by decide) (fun c => ?_) (fun c => ?_)
        · have h := hT c
          refine z_aload_n hC (pc := 128) 1 dX14_readSteering_128 rfl rfl ?_
          refine z_dup hC (pc := 129) dX14_readSteering_129 rfl ?_
          refine y_get hC (pc := 130) zf14 rOb_0 29 (v := iv (rF σ 0 29)) dX14_readSteering_130 zw2496 (rv_i (Or.inl rfl) rfl) (kk := ?_)
          have h := h (hwf.f _ _)
          refine z_bipush hC (pc := 133) (v := Int32.ofInt 6) dX14_readSteering_133 (by decide) ?_
          refine y_iadd hC (pc := 135) (v := ((rF σ 0 29) + 6)) dX14_readSteering_135 rfl ?_
          obtain ⟨r56, h⟩ := h
          refine y_putI hC (pc := 136) zf14 rOb_0 29 (x := ((rF σ 0 29) + 6)) dX14_readSteering_136 zw2496 (Or.inl rfl) rfl rfl (kk := ?_)
          have W57 := hwf.sF (q := 0) (f := 29) (x := ((rF σ 0 29) + 6)) r56
          refine z_aload_n hC (pc := 139) 1 dX14_readSteering_139 rfl rfl ?_
          refine z_dup hC (pc := 140) dX14_readSteering_140 rfl ?_
          refine y_get hC (pc := 141) zf14 rOb_0 31 (v := iv (rF σ 0 31)) dX14_readSteering_141 zw2498 (rv_i (Or.inl rfl) ((F_sF_ne (by decide)).trans rfl)) (kk := ?_)
          have h := h (hwf.f _ _)
          refine z_iconst hC (pc := 144) (v := Int32.ofInt 1) dX14_readSteering_144 (by decide) ?_
          refine y_isub hC (pc := 145) (v := ((rF σ 0 31) - 1)) dX14_readSteering_145 rfl ?_
          obtain ⟨r58, h⟩ := h
          refine y_putI hC (pc := 146) zf14 rOb_0 31 (x := ((rF σ 0 31) - 1)) dX14_readSteering_146 zw2498 (Or.inl rfl) rfl rfl (kk := ?_)
          have W59 := W57.sF (q := 0) (f := 31) (x := ((rF σ 0 31) - 1)) r58
          refine z_aload_n hC (pc := 149) 1 dX14_readSteering_149 rfl rfl ?_
          obtain ⟨g60, h⟩ := h
          obtain ⟨p61, h⟩ := h
          obtain ⟨p62, h⟩ := h
          refine y_callVi hC (pc := 150) (As := []) (qX14_condition ih (sF (sF σ 0 29 ((rF σ 0 29) + 6)) 0 31 ((rF σ 0 31) - 1)) gg g60 W59  p61 p62) dmX14_condition zf14 rOb_0 dX14_readSteering_150 zw3186 rfl rfl (Nat.le_of_ble_eq_true rfl) (Nat.le_of_ble_eq_true rfl) (by omega) (by omega) (Nat.le_of_ble_eq_true rfl) (kk := fun v150 s150 hv150 Ws150 qs150 => ?_)
          have h := h v150 s150 hv150 Ws150 (TPRp.keep qs150.1 rfl rfl rfl) (CCp.keep qs150.1 rfl rfl rfl rfl rfl rfl rfl) (qs150.1.R rfl) (qs150.1.F rfl) (qs150.1.F rfl) (qs150.1.F rfl) (qs150.1.F rfl) (qs150.1.F rfl) (qs150.1.F rfl) (fun i => qs150.1.A (f := 26) (by decide) rfl) qs150.2
          refine z_istore hC (pc := 153) (lv' := [(4, iv v150), (3, iv v1), (0, .ref (κ 0)), (1, iv x1), (2, iv x2)]) dX14_readSteering_153 (by decide) rfl ?_
          refine z_aload_n hC (pc := 155) 2 dX14_readSteering_155 rfl rfl ?_
          refine y_get hC (pc := 156) zf14 rOb_0 10 (v := iv (rF s150 0 10)) dX14_readSteering_156 zw2478 (rv_i (Or.inl rfl) rfl) (kk := ?_)
          have h := h (Ws150.f _ _)
          obtain ⟨hT, hF⟩ := h
          refine y_if_eq hC (pc := 159) 163 (Ws150.f _ _) dX14_readSteering_159 (by decide) (fun c => ?_) (fun c => ?_)
          · have h := hT c
            refine z_aload_n hC (pc := 163) 2 dX14_readSteering_163 rfl rfl ?_
            refine z_dup hC (pc := 164) dX14_readSteering_164 rfl ?_
            refine y_get hC (pc := 165) zf14 rOb_0 31 (v := iv (rF s150 0 31)) dX14_readSteering_165 zw2498 (rv_i (Or.inl rfl) rfl) (kk := ?_)
            have h := h (Ws150.f _ _)
            refine z_iconst hC (pc := 168) (v := Int32.ofInt 1) dX14_readSteering_168 (by decide) ?_
            refine y_iadd hC (pc := 169) (v := ((rF s150 0 31) + 1)) dX14_readSteering_169 rfl ?_
            obtain ⟨r63, h⟩ := h
            refine y_putI hC (pc := 170) zf14 rOb_0 31 (x := ((rF s150 0 31) + 1)) dX14_readSteering_170 zw2498 (Or.inl rfl) rfl rfl (kk := ?_)
            have W64 := Ws150.sF (q := 0) (f := 31) (x := ((rF s150 0 31) + 1)) r63
            refine z_aload_n hC (pc := 173) 2 dX14_readSteering_173 rfl rfl ?_
            refine z_bipush hC (pc := 174) (v := Int32.ofInt 22) dX14_readSteering_174 (by decide) ?_
            refine z_iload hC (pc := 176) 0 dX14_readSteering_176 rfl ?_
            refine z_iload_n hC (pc := 178) 3 dX14_readSteering_178 rfl rfl ?_
            obtain ⟨p65, h⟩ := h
            refine y_callVv hC (pc := 179) (As := [iv 22, iv v150, iv x1]) (kX14_note_t l G κ (sF s150 0 31 ((rF s150 0 31) + 1)) 22 v150 x1 gg W64 (r_lit rfl) hv150 hx1 p65) dmX14_note zf14 rOb_0 dX14_readSteering_179 zw3111 rfl rfl (Nat.le_of_ble_eq_true rfl) (Nat.le_of_ble_eq_true rfl) (by omega) (by omega) (Nat.le_of_ble_eq_true rfl) (kk := fun s179 Ws179 qs179 => ?_)
            have h := h s179 Ws179 (rNMp.keep qs179.1 rfl rfl rfl rfl rfl) (TPRp.keep qs179.1 rfl rfl rfl) (PNp.keep qs179.1 rfl rfl rfl rfl rfl) (CCp.keep qs179.1 rfl rfl rfl rfl rfl rfl rfl) (qs179.1.R rfl) (qs179.1.F rfl) (qs179.1.F rfl) (qs179.1.F rfl) (qs179.1.F rfl) (qs179.1.F rfl) (qs179.1.F rfl) (qs179.1.F rfl) (qs179.1.F rfl) (qs179.1.F rfl) (qs179.1.F rfl) (fun i => qs179.1.A (f := 26) (by decide) rfl) (fun i => qs179.1.A (f := 40) (by decide) rfl) (qs179.1.FG g0 rfl) (qs179.1.FG g0 rfl) (qs179.1.FG g0 rfl) (qs179.1.FG g0 rfl) (qs179.1.FG g0 rfl) (fz_keep qs179.1 rfl) qs179.2
            refine z_goto hC (pc := 182) 339 dX14_readSteering_182 (by decide) ?_
            exact y_retv hR dX14_readSteering_339 Ws179 (Nat.le_of_ble_eq_true rfl) (Nat.le_of_ble_eq_true rfl) ⟨(rKeep.tr (rKeep.tr (rKeep.tr (rKeep.tr (rKeep.tr rKeep.rf (rKeep.sF0 (f := 29)) rfl rfl rfl rfl rfl) (rKeep.sF0 (f := 31)) rfl rfl rfl rfl rfl) qs150.1 rfl rfl rfl rfl rfl) (rKeep.sF0 (f := 31)) rfl rfl rfl rfl rfl) qs179.1 rfl rfl rfl rfl rfl), h⟩
          · have h := hF c
            exact y_retv hR dX14_readSteering_162 Ws150 (Nat.le_of_ble_eq_true rfl) (Nat.le_of_ble_eq_true rfl) ⟨(rKeep.tr (rKeep.tr (rKeep.tr rKeep.rf (rKeep.sF0 (f := 29)) rfl rfl rfl rfl rfl) (rKeep.sF0 (f := 31)) rfl rfl rfl rfl rfl) qs150.1 rfl rfl rfl rfl rfl), h⟩
        · have h := hF c
          exact y_retv hR dX14_readSteering_127 hwf (Nat.le_of_ble_eq_true rfl) (Nat.le_of_ble_eq_true rfl) ⟨rKeep.rf, h⟩
      · have h := hF c
        refine z_aload_n hC (pc := 114) 1 dX14_readSteering_114 rfl rfl ?_
        refine z_iconst hC (pc := 115) (v := Int32.ofInt 1) dX14_readSteering_115 (by decide) ?_
        refine z_iload_n hC (pc := 116) 0 dX14_readSteering_116 rfl rfl ?_
        obtain ⟨p66, h⟩ := h
        refine y_callVv hC (pc := 117) (As := [iv 1, iv v1]) (kX14_bad l G κ σ 1 v1 hwf (r_lit rfl) hv1 p66) dmX14_bad zf14 rOb_0 dX14_readSteering_117 zw3000 rfl rfl (Nat.le_of_ble_eq_true rfl) (Nat.le_of_ble_eq_true rfl) (by omega) (by omega) (Nat.le_of_ble_eq_true rfl) (kk := fun s117 Ws117 qs117 => ?_)
        have h := h s117 Ws117 (rNMp.keep qs117.1 rfl rfl rfl rfl rfl) (TPRp.keep qs117.1 rfl rfl rfl) (WNp.keep qs117.1 rfl rfl rfl rfl rfl) (PNp.keep qs117.1 rfl rfl rfl rfl rfl) (CCp.keep qs117.1 rfl rfl rfl rfl rfl rfl rfl) (qs117.1.R rfl) (qs117.1.F rfl) (qs117.1.F rfl) (qs117.1.F rfl) (qs117.1.F rfl) (qs117.1.F rfl) (qs117.1.F rfl) (qs117.1.F rfl) (qs117.1.F rfl) (qs117.1.F rfl) (qs117.1.F rfl) (fun i => qs117.1.A (f := 26) (by decide) rfl) (fun i => qs117.1.A (f := 34) (by decide) rfl) (fun i => qs117.1.A (f := 35) (by decide) rfl) (fun i => qs117.1.A (f := 37) (by decide) rfl) (fun i => qs117.1.A (f := 40) (by decide) rfl) (qs117.1.FG g0 rfl) (qs117.1.FG g0 rfl) (qs117.1.FG g0 rfl) (qs117.1.FG g0 rfl) (qs117.1.FG g0 rfl) (RG.keep (c0 := 0) qs117.1 rfl rfl rfl rfl rfl rfl rfl rfl rfl rfl rfl rfl rfl rfl rfl rfl rfl rfl) qs117.2
        refine z_aload_n hC (pc := 120) 1 dX14_readSteering_120 rfl rfl ?_
        refine y_get hC (pc := 121) zf14 rOb_0 10 (v := iv (rF s117 0 10)) dX14_readSteering_121 zw2478 (rv_i (Or.inl rfl) rfl) (kk := ?_)
        have h := h (Ws117.f _ _)
        obtain ⟨hT, hF⟩ := h
        refine y_if_eq hC (pc := 124) 128 (Ws117.f _ _) dX14_readSteering_124 (by decide) (fun c => ?_) (fun c => ?_)
        · have h := hT c
          refine z_aload_n hC (pc := 128) 1 dX14_readSteering_128 rfl rfl ?_
          refine z_dup hC (pc := 129) dX14_readSteering_129 rfl ?_
          refine y_get hC (pc := 130) zf14 rOb_0 29 (v := iv (rF σ 0 29)) dX14_readSteering_130 zw2496 (rv_i (Or.inl rfl) ((qs117.1.F rfl).trans rfl)) (kk := ?_)
          have h := h (hwf.f _ _)
          refine z_bipush hC (pc := 133) (v := Int32.ofInt 6) dX14_readSteering_133 (by decide) ?_
          refine y_iadd hC (pc := 135) (v := ((rF σ 0 29) + 6)) dX14_readSteering_135 rfl ?_
          obtain ⟨r67, h⟩ := h
          refine y_putI hC (pc := 136) zf14 rOb_0 29 (x := ((rF σ 0 29) + 6)) dX14_readSteering_136 zw2496 (Or.inl rfl) rfl rfl (kk := ?_)
          have W68 := Ws117.sF (q := 0) (f := 29) (x := ((rF σ 0 29) + 6)) r67
          refine z_aload_n hC (pc := 139) 1 dX14_readSteering_139 rfl rfl ?_
          refine z_dup hC (pc := 140) dX14_readSteering_140 rfl ?_
          refine y_get hC (pc := 141) zf14 rOb_0 31 (v := iv (rF σ 0 31)) dX14_readSteering_141 zw2498 (rv_i (Or.inl rfl) ((F_sF_ne (by decide)).trans ((qs117.1.F rfl).trans rfl))) (kk := ?_)
          have h := h (hwf.f _ _)
          refine z_iconst hC (pc := 144) (v := Int32.ofInt 1) dX14_readSteering_144 (by decide) ?_
          refine y_isub hC (pc := 145) (v := ((rF σ 0 31) - 1)) dX14_readSteering_145 rfl ?_
          obtain ⟨r69, h⟩ := h
          refine y_putI hC (pc := 146) zf14 rOb_0 31 (x := ((rF σ 0 31) - 1)) dX14_readSteering_146 zw2498 (Or.inl rfl) rfl rfl (kk := ?_)
          have W70 := W68.sF (q := 0) (f := 31) (x := ((rF σ 0 31) - 1)) r69
          refine z_aload_n hC (pc := 149) 1 dX14_readSteering_149 rfl rfl ?_
          obtain ⟨g71, h⟩ := h
          obtain ⟨p72, h⟩ := h
          obtain ⟨p73, h⟩ := h
          refine y_callVi hC (pc := 150) (As := []) (qX14_condition ih (sF (sF s117 0 29 ((rF σ 0 29) + 6)) 0 31 ((rF σ 0 31) - 1)) gg g71 W70  p72 p73) dmX14_condition zf14 rOb_0 dX14_readSteering_150 zw3186 rfl rfl (Nat.le_of_ble_eq_true rfl) (Nat.le_of_ble_eq_true rfl) (by omega) (by omega) (Nat.le_of_ble_eq_true rfl) (kk := fun v150 s150 hv150 Ws150 qs150 => ?_)
          have h := h v150 s150 hv150 Ws150 (TPRp.keep qs150.1 rfl rfl rfl) (CCp.keep qs150.1 rfl rfl rfl rfl rfl rfl rfl) (qs150.1.R rfl) (qs150.1.F rfl) (qs150.1.F rfl) (qs150.1.F rfl) (qs150.1.F rfl) (qs150.1.F rfl) (qs150.1.F rfl) (fun i => qs150.1.A (f := 26) (by decide) rfl) qs150.2
          refine z_istore hC (pc := 153) (lv' := [(4, iv v150), (3, iv v1), (0, .ref (κ 0)), (1, iv x1), (2, iv x2)]) dX14_readSteering_153 (by decide) rfl ?_
          refine z_aload_n hC (pc := 155) 2 dX14_readSteering_155 rfl rfl ?_
          refine y_get hC (pc := 156) zf14 rOb_0 10 (v := iv (rF s150 0 10)) dX14_readSteering_156 zw2478 (rv_i (Or.inl rfl) rfl) (kk := ?_)
          have h := h (Ws150.f _ _)
          obtain ⟨hT, hF⟩ := h
          refine y_if_eq hC (pc := 159) 163 (Ws150.f _ _) dX14_readSteering_159 (by decide) (fun c => ?_) (fun c => ?_)
          · have h := hT c
            refine z_aload_n hC (pc := 163) 2 dX14_readSteering_163 rfl rfl ?_
            refine z_dup hC (pc := 164) dX14_readSteering_164 rfl ?_
            refine y_get hC (pc := 165) zf14 rOb_0 31 (v := iv (rF s150 0 31)) dX14_readSteering_165 zw2498 (rv_i (Or.inl rfl) rfl) (kk := ?_)
            have h := h (Ws150.f _ _)
            refine z_iconst hC (pc := 168) (v := Int32.ofInt 1) dX14_readSteering_168 (by decide) ?_
            refine y_iadd hC (pc := 169) (v := ((rF s150 0 31) + 1)) dX14_readSteering_169 rfl ?_
            obtain ⟨r74, h⟩ := h
            refine y_putI hC (pc := 170) zf14 rOb_0 31 (x := ((rF s150 0 31) + 1)) dX14_readSteering_170 zw2498 (Or.inl rfl) rfl rfl (kk := ?_)
            have W75 := Ws150.sF (q := 0) (f := 31) (x := ((rF s150 0 31) + 1)) r74
            refine z_aload_n hC (pc := 173) 2 dX14_readSteering_173 rfl rfl ?_
            refine z_bipush hC (pc := 174) (v := Int32.ofInt 22) dX14_readSteering_174 (by decide) ?_
            refine z_iload hC (pc := 176) 0 dX14_readSteering_176 rfl ?_
            refine z_iload_n hC (pc := 178) 3 dX14_readSteering_178 rfl rfl ?_
            obtain ⟨p76, h⟩ := h
            refine y_callVv hC (pc := 179) (As := [iv 22, iv v150, iv x1]) (kX14_note_t l G κ (sF s150 0 31 ((rF s150 0 31) + 1)) 22 v150 x1 gg W75 (r_lit rfl) hv150 hx1 p76) dmX14_note zf14 rOb_0 dX14_readSteering_179 zw3111 rfl rfl (Nat.le_of_ble_eq_true rfl) (Nat.le_of_ble_eq_true rfl) (by omega) (by omega) (Nat.le_of_ble_eq_true rfl) (kk := fun s179 Ws179 qs179 => ?_)
            have h := h s179 Ws179 (rNMp.keep qs179.1 rfl rfl rfl rfl rfl) (TPRp.keep qs179.1 rfl rfl rfl) (PNp.keep qs179.1 rfl rfl rfl rfl rfl) (CCp.keep qs179.1 rfl rfl rfl rfl rfl rfl rfl) (qs179.1.R rfl) (qs179.1.F rfl) (qs179.1.F rfl) (qs179.1.F rfl) (qs179.1.F rfl) (qs179.1.F rfl) (qs179.1.F rfl) (qs179.1.F rfl) (qs179.1.F rfl) (qs179.1.F rfl) (qs179.1.F rfl) (fun i => qs179.1.A (f := 26) (by decide) rfl) (fun i => qs179.1.A (f := 40) (by decide) rfl) (qs179.1.FG g0 rfl) (qs179.1.FG g0 rfl) (qs179.1.FG g0 rfl) (qs179.1.FG g0 rfl) (qs179.1.FG g0 rfl) (fz_keep qs179.1 rfl) qs179.2
            refine z_goto hC (pc := 182) 339 dX14_readSteering_182 (by decide) ?_
            exact y_retv hR dX14_readSteering_339 Ws179 (Nat.le_of_ble_eq_true rfl) (Nat.le_of_ble_eq_true rfl) ⟨(rKeep.tr (rKeep.tr (rKeep.tr (rKeep.tr (rKeep.tr (rKeep.tr rKeep.rf qs117.1 rfl rfl rfl rfl rfl) (rKeep.sF0 (f := 29)) rfl rfl rfl rfl rfl) (rKeep.sF0 (f := 31)) rfl rfl rfl rfl rfl) qs150.1 rfl rfl rfl rfl rfl) (rKeep.sF0 (f := 31)) rfl rfl rfl rfl rfl) qs179.1 rfl rfl rfl rfl rfl), h⟩
          · have h := hF c
            exact y_retv hR dX14_readSteering_162 Ws150 (Nat.le_of_ble_eq_true rfl) (Nat.le_of_ble_eq_true rfl) ⟨(rKeep.tr (rKeep.tr (rKeep.tr (rKeep.tr rKeep.rf qs117.1 rfl rfl rfl rfl rfl) (rKeep.sF0 (f := 29)) rfl rfl rfl rfl rfl) (rKeep.sF0 (f := 31)) rfl rfl rfl rfl rfl) qs150.1 rfl rfl rfl rfl rfl), h⟩
        · have h := hF c
          exact y_retv hR dX14_readSteering_127 Ws117 (Nat.le_of_ble_eq_true rfl) (Nat.le_of_ble_eq_true rfl) ⟨(rKeep.tr rKeep.rf qs117.1 rfl rfl rfl rfl rfl), h⟩
  · have h := hF c
    refine z_aload_n hC (pc := 15) 1 dX14_readSteering_15 rfl rfl ?_
    refine z_dup hC (pc := 16) dX14_readSteering_16 rfl ?_
    refine y_get hC (pc := 17) zf14 rOb_0 29 (v := iv (rF σ 0 29)) dX14_readSteering_17 zw2496 (rv_i (Or.inl rfl) rfl) (kk := ?_)
    have h := h (hwf.f _ _)
    refine z_iconst hC (pc := 20) (v := Int32.ofInt 2) dX14_readSteering_20 (by decide) ?_
    refine y_iadd hC (pc := 21) (v := ((rF σ 0 29) + 2)) dX14_readSteering_21 rfl ?_
    obtain ⟨r77, h⟩ := h
    refine y_putI hC (pc := 22) zf14 rOb_0 29 (x := ((rF σ 0 29) + 2)) dX14_readSteering_22 zw2496 (Or.inl rfl) rfl rfl (kk := ?_)
    have W78 := hwf.sF (q := 0) (f := 29) (x := ((rF σ 0 29) + 2)) r77
    refine z_aload_n hC (pc := 25) 1 dX14_readSteering_25 rfl rfl ?_
    refine y_get hC (pc := 26) zf14 rOb_0 31 (v := iv (rF σ 0 31)) dX14_readSteering_26 zw2498 (rv_i (Or.inl rfl) ((F_sF_ne (by decide)).trans rfl)) (kk := ?_)
    have h := h (hwf.f _ _)
    refine z_bipush hC (pc := 29) (v := Int32.ofInt 20) dX14_readSteering_29 (by decide) ?_
    obtain ⟨hT, hF⟩ := h
    refine y_icmp_ne hC (pc := 31) 40 (hwf.f _ _) (r_lit rfl) dX14_readSteering_31 (by decide) (fun c => ?_) (fun c => ?_)
    · have h := hT c
      refine z_aload_n hC (pc := 40) 1 dX14_readSteering_40 rfl rfl ?_
      obtain ⟨g79, h⟩ := h
      obtain ⟨p80, h⟩ := h
      obtain ⟨p81, h⟩ := h
      refine y_callVi hC (pc := 41) (As := []) (qX14_condition ih (sF σ 0 29 ((rF σ 0 29) + 2)) gg g79 W78  p80 p81) dmX14_condition zf14 rOb_0 dX14_readSteering_41 zw3186 rfl rfl (Nat.le_of_ble_eq_true rfl) (Nat.le_of_ble_eq_true rfl) (by omega) (by omega) (Nat.le_of_ble_eq_true rfl) (kk := fun v41 s41 hv41 Ws41 qs41 => ?_)
      have h := h v41 s41 hv41 Ws41 (TPRp.keep qs41.1 rfl rfl rfl) (CCp.keep qs41.1 rfl rfl rfl rfl rfl rfl rfl) (qs41.1.R rfl) (qs41.1.F rfl) (qs41.1.F rfl) (qs41.1.F rfl) (qs41.1.F rfl) (qs41.1.F rfl) (qs41.1.F rfl) (fun i => qs41.1.A (f := 26) (by decide) rfl) qs41.2
      refine z_istore hC (pc := 44) (lv' := [(4, iv v41), (3, iv v1), (0, .ref (κ 0)), (1, iv x1), (2, iv x2)]) dX14_readSteering_44 (by decide) rfl ?_
      refine z_aload_n hC (pc := 46) 2 dX14_readSteering_46 rfl rfl ?_
      refine y_get hC (pc := 47) zf14 rOb_0 10 (v := iv (rF s41 0 10)) dX14_readSteering_47 zw2478 (rv_i (Or.inl rfl) rfl) (kk := ?_)
      have h := h (Ws41.f _ _)
      obtain ⟨hT, hF⟩ := h
      refine y_if_eq hC (pc := 50) 54 (Ws41.f _ _) dX14_readSteering_50 (by decide) (fun c => ?_) (fun c => ?_)
      · have h := hT c
        refine z_aload_n hC (pc := 54) 2 dX14_readSteering_54 rfl rfl ?_
        refine z_dup hC (pc := 55) dX14_readSteering_55 rfl ?_
        refine y_get hC (pc := 56) zf14 rOb_0 31 (v := iv (rF s41 0 31)) dX14_readSteering_56 zw2498 (rv_i (Or.inl rfl) rfl) (kk := ?_)
        have h := h (Ws41.f _ _)
        refine z_iconst hC (pc := 59) (v := Int32.ofInt 1) dX14_readSteering_59 (by decide) ?_
        refine y_iadd hC (pc := 60) (v := ((rF s41 0 31) + 1)) dX14_readSteering_60 rfl ?_
        obtain ⟨r82, h⟩ := h
        refine y_putI hC (pc := 61) zf14 rOb_0 31 (x := ((rF s41 0 31) + 1)) dX14_readSteering_61 zw2498 (Or.inl rfl) rfl rfl (kk := ?_)
        have W83 := Ws41.sF (q := 0) (f := 31) (x := ((rF s41 0 31) + 1)) r82
        refine z_aload_n hC (pc := 64) 2 dX14_readSteering_64 rfl rfl ?_
        refine y_get hC (pc := 65) zf14 rOb_0 40 (v := .ref (κ 1040)) dX14_readSteering_65 zw2507 (rv_c rfl) (kk := ?_)
        refine z_aload_n hC (pc := 68) 2 dX14_readSteering_68 rfl rfl ?_
        refine y_get hC (pc := 69) zf14 rOb_0 39 (v := iv (rF s41 0 39)) dX14_readSteering_69 zw2506 (rv_i (Or.inl rfl) ((F_sF_ne (by decide)).trans rfl)) (kk := ?_)
        have h := h (Ws41.f _ _)
        refine z_iconst hC (pc := 72) (v := Int32.ofInt 5) dX14_readSteering_72 (by decide) ?_
        obtain ⟨b84, h⟩ := h
        refine y_iast hC (pc := 73) (rAr_m rfl) dX14_readSteering_73 b84 (v := 5) (kk := ?_)
        have W85 := W83.sA (p := 1040) (i := (rF s41 0 39)) (x := 5) (r_lit rfl)
        refine z_aload_n hC (pc := 74) 2 dX14_readSteering_74 rfl rfl ?_
        refine z_dup hC (pc := 75) dX14_readSteering_75 rfl ?_
        refine y_get hC (pc := 76) zf14 rOb_0 39 (v := iv (rF s41 0 39)) dX14_readSteering_76 zw2506 (rv_i (Or.inl rfl) (rF_sA.trans ((F_sF_ne (by decide)).trans rfl))) (kk := ?_)
        refine z_iconst hC (pc := 79) (v := Int32.ofInt 1) dX14_readSteering_79 (by decide) ?_
        refine y_iadd hC (pc := 80) (v := ((rF s41 0 39) + 1)) dX14_readSteering_80 rfl ?_
        obtain ⟨r86, h⟩ := h
        refine y_putI hC (pc := 81) zf14 rOb_0 39 (x := ((rF s41 0 39) + 1)) dX14_readSteering_81 zw2506 (Or.inl rfl) rfl rfl (kk := ?_)
        have W87 := W85.sF (q := 0) (f := 39) (x := ((rF s41 0 39) + 1)) r86
        refine z_aload_n hC (pc := 84) 2 dX14_readSteering_84 rfl rfl ?_
        refine z_iconst hC (pc := 85) (v := Int32.ofInt 5) dX14_readSteering_85 (by decide) ?_
        refine z_iload hC (pc := 86) 0 dX14_readSteering_86 rfl ?_
        refine z_iload_n hC (pc := 88) 3 dX14_readSteering_88 rfl rfl ?_
        obtain ⟨p88, h⟩ := h
        refine y_callVv hC (pc := 89) (As := [iv 5, iv v41, iv x1]) (kX14_note_t l G κ (sF (sA (sF s41 0 31 ((rF s41 0 31) + 1)) 1040 (rF s41 0 39) 5) 0 39 ((rF s41 0 39) + 1)) 5 v41 x1 gg W87 (r_lit rfl) hv41 hx1 p88) dmX14_note zf14 rOb_0 dX14_readSteering_89 zw3111 rfl rfl (Nat.le_of_ble_eq_true rfl) (Nat.le_of_ble_eq_true rfl) (by omega) (by omega) (Nat.le_of_ble_eq_true rfl) (kk := fun s89 Ws89 qs89 => ?_)
        have h := h s89 Ws89 (rNMp.keep qs89.1 rfl rfl rfl rfl rfl) (TPRp.keep qs89.1 rfl rfl rfl) (PNp.keep qs89.1 rfl rfl rfl rfl rfl) (CCp.keep qs89.1 rfl rfl rfl rfl rfl rfl rfl) (qs89.1.R rfl) (qs89.1.F rfl) (qs89.1.F rfl) (qs89.1.F rfl) (qs89.1.F rfl) (qs89.1.F rfl) (qs89.1.F rfl) (qs89.1.F rfl) (qs89.1.F rfl) (qs89.1.F rfl) (qs89.1.F rfl) (fun i => qs89.1.A (f := 26) (by decide) rfl) (fun i => qs89.1.A (f := 40) (by decide) rfl) (qs89.1.FG g0 rfl) (qs89.1.FG g0 rfl) (qs89.1.FG g0 rfl) (qs89.1.FG g0 rfl) (qs89.1.FG g0 rfl) (fz_keep qs89.1 rfl) qs89.2
        refine z_goto hC (pc := 92) 339 dX14_readSteering_92 (by decide) ?_
        exact y_retv hR dX14_readSteering_339 Ws89 (Nat.le_of_ble_eq_true rfl) (Nat.le_of_ble_eq_true rfl) ⟨(rKeep.tr (rKeep.tr (rKeep.tr (rKeep.tr (rKeep.tr (rKeep.tr rKeep.rf (rKeep.sF0 (f := 29)) rfl rfl rfl rfl rfl) qs41.1 rfl rfl rfl rfl rfl) (rKeep.sF0 (f := 31)) rfl rfl rfl rfl rfl) (rKeep.sA0 (f := 40) (by decide)) rfl rfl rfl rfl rfl) (rKeep.sF0 (f := 39)) rfl rfl rfl rfl rfl) qs89.1 rfl rfl rfl rfl rfl), h⟩
      · have h := hF c
        exact y_retv hR dX14_readSteering_53 Ws41 (Nat.le_of_ble_eq_true rfl) (Nat.le_of_ble_eq_true rfl) ⟨(rKeep.tr (rKeep.tr rKeep.rf (rKeep.sF0 (f := 29)) rfl rfl rfl rfl rfl) qs41.1 rfl rfl rfl rfl rfl), h⟩
    · have h := hF c
      refine z_aload_n hC (pc := 34) 1 dX14_readSteering_34 rfl rfl ?_
      refine z_iconst hC (pc := 35) (v := Int32.ofInt 4) dX14_readSteering_35 (by decide) ?_
      refine z_iload_n hC (pc := 36) 0 dX14_readSteering_36 rfl rfl ?_
      obtain ⟨p89, h⟩ := h
      refine y_callVv hC (pc := 37) (As := [iv 4, iv v1]) (kX14_bad l G κ (sF σ 0 29 ((rF σ 0 29) + 2)) 4 v1 W78 (r_lit rfl) hv1 p89) dmX14_bad zf14 rOb_0 dX14_readSteering_37 zw3000 rfl rfl (Nat.le_of_ble_eq_true rfl) (Nat.le_of_ble_eq_true rfl) (by omega) (by omega) (Nat.le_of_ble_eq_true rfl) (kk := fun s37 Ws37 qs37 => ?_)
      have h := h s37 Ws37 (rNMp.keep qs37.1 rfl rfl rfl rfl rfl) (TPRp.keep qs37.1 rfl rfl rfl) (WNp.keep qs37.1 rfl rfl rfl rfl rfl) (PNp.keep qs37.1 rfl rfl rfl rfl rfl) (CCp.keep qs37.1 rfl rfl rfl rfl rfl rfl rfl) (qs37.1.R rfl) (qs37.1.F rfl) (qs37.1.F rfl) (qs37.1.F rfl) (qs37.1.F rfl) (qs37.1.F rfl) (qs37.1.F rfl) (qs37.1.F rfl) (qs37.1.F rfl) (qs37.1.F rfl) (qs37.1.F rfl) (fun i => qs37.1.A (f := 26) (by decide) rfl) (fun i => qs37.1.A (f := 34) (by decide) rfl) (fun i => qs37.1.A (f := 35) (by decide) rfl) (fun i => qs37.1.A (f := 37) (by decide) rfl) (fun i => qs37.1.A (f := 40) (by decide) rfl) (qs37.1.FG g0 rfl) (qs37.1.FG g0 rfl) (qs37.1.FG g0 rfl) (qs37.1.FG g0 rfl) (qs37.1.FG g0 rfl) (RG.keep (c0 := 0) qs37.1 rfl rfl rfl rfl rfl rfl rfl rfl rfl rfl rfl rfl rfl rfl rfl rfl rfl rfl) qs37.2
      refine z_aload_n hC (pc := 40) 1 dX14_readSteering_40 rfl rfl ?_
      obtain ⟨g90, h⟩ := h
      obtain ⟨p91, h⟩ := h
      obtain ⟨p92, h⟩ := h
      refine y_callVi hC (pc := 41) (As := []) (qX14_condition ih s37 gg g90 Ws37  p91 p92) dmX14_condition zf14 rOb_0 dX14_readSteering_41 zw3186 rfl rfl (Nat.le_of_ble_eq_true rfl) (Nat.le_of_ble_eq_true rfl) (by omega) (by omega) (Nat.le_of_ble_eq_true rfl) (kk := fun v41 s41 hv41 Ws41 qs41 => ?_)
      have h := h v41 s41 hv41 Ws41 (TPRp.keep qs41.1 rfl rfl rfl) (CCp.keep qs41.1 rfl rfl rfl rfl rfl rfl rfl) (qs41.1.R rfl) (qs41.1.F rfl) (qs41.1.F rfl) (qs41.1.F rfl) (qs41.1.F rfl) (qs41.1.F rfl) (qs41.1.F rfl) (fun i => qs41.1.A (f := 26) (by decide) rfl) qs41.2
      refine z_istore hC (pc := 44) (lv' := [(4, iv v41), (3, iv v1), (0, .ref (κ 0)), (1, iv x1), (2, iv x2)]) dX14_readSteering_44 (by decide) rfl ?_
      refine z_aload_n hC (pc := 46) 2 dX14_readSteering_46 rfl rfl ?_
      refine y_get hC (pc := 47) zf14 rOb_0 10 (v := iv (rF s41 0 10)) dX14_readSteering_47 zw2478 (rv_i (Or.inl rfl) rfl) (kk := ?_)
      have h := h (Ws41.f _ _)
      obtain ⟨hT, hF⟩ := h
      refine y_if_eq hC (pc := 50) 54 (Ws41.f _ _) dX14_readSteering_50 (by decide) (fun c => ?_) (fun c => ?_)
      · have h := hT c
        refine z_aload_n hC (pc := 54) 2 dX14_readSteering_54 rfl rfl ?_
        refine z_dup hC (pc := 55) dX14_readSteering_55 rfl ?_
        refine y_get hC (pc := 56) zf14 rOb_0 31 (v := iv (rF s41 0 31)) dX14_readSteering_56 zw2498 (rv_i (Or.inl rfl) rfl) (kk := ?_)
        have h := h (Ws41.f _ _)
        refine z_iconst hC (pc := 59) (v := Int32.ofInt 1) dX14_readSteering_59 (by decide) ?_
        refine y_iadd hC (pc := 60) (v := ((rF s41 0 31) + 1)) dX14_readSteering_60 rfl ?_
        obtain ⟨r93, h⟩ := h
        refine y_putI hC (pc := 61) zf14 rOb_0 31 (x := ((rF s41 0 31) + 1)) dX14_readSteering_61 zw2498 (Or.inl rfl) rfl rfl (kk := ?_)
        have W94 := Ws41.sF (q := 0) (f := 31) (x := ((rF s41 0 31) + 1)) r93
        refine z_aload_n hC (pc := 64) 2 dX14_readSteering_64 rfl rfl ?_
        refine y_get hC (pc := 65) zf14 rOb_0 40 (v := .ref (κ 1040)) dX14_readSteering_65 zw2507 (rv_c rfl) (kk := ?_)
        refine z_aload_n hC (pc := 68) 2 dX14_readSteering_68 rfl rfl ?_
        refine y_get hC (pc := 69) zf14 rOb_0 39 (v := iv (rF s41 0 39)) dX14_readSteering_69 zw2506 (rv_i (Or.inl rfl) ((F_sF_ne (by decide)).trans rfl)) (kk := ?_)
        have h := h (Ws41.f _ _)
        refine z_iconst hC (pc := 72) (v := Int32.ofInt 5) dX14_readSteering_72 (by decide) ?_
        obtain ⟨b95, h⟩ := h
        refine y_iast hC (pc := 73) (rAr_m rfl) dX14_readSteering_73 b95 (v := 5) (kk := ?_)
        have W96 := W94.sA (p := 1040) (i := (rF s41 0 39)) (x := 5) (r_lit rfl)
        refine z_aload_n hC (pc := 74) 2 dX14_readSteering_74 rfl rfl ?_
        refine z_dup hC (pc := 75) dX14_readSteering_75 rfl ?_
        refine y_get hC (pc := 76) zf14 rOb_0 39 (v := iv (rF s41 0 39)) dX14_readSteering_76 zw2506 (rv_i (Or.inl rfl) (rF_sA.trans ((F_sF_ne (by decide)).trans rfl))) (kk := ?_)
        refine z_iconst hC (pc := 79) (v := Int32.ofInt 1) dX14_readSteering_79 (by decide) ?_
        refine y_iadd hC (pc := 80) (v := ((rF s41 0 39) + 1)) dX14_readSteering_80 rfl ?_
        obtain ⟨r97, h⟩ := h
        refine y_putI hC (pc := 81) zf14 rOb_0 39 (x := ((rF s41 0 39) + 1)) dX14_readSteering_81 zw2506 (Or.inl rfl) rfl rfl (kk := ?_)
        have W98 := W96.sF (q := 0) (f := 39) (x := ((rF s41 0 39) + 1)) r97
        refine z_aload_n hC (pc := 84) 2 dX14_readSteering_84 rfl rfl ?_
        refine z_iconst hC (pc := 85) (v := Int32.ofInt 5) dX14_readSteering_85 (by decide) ?_
        refine z_iload hC (pc := 86) 0 dX14_readSteering_86 rfl ?_
        refine z_iload_n hC (pc := 88) 3 dX14_readSteering_88 rfl rfl ?_
        obtain ⟨p99, h⟩ := h
        refine y_callVv hC (pc := 89) (As := [iv 5, iv v41, iv x1]) (kX14_note_t l G κ (sF (sA (sF s41 0 31 ((rF s41 0 31) + 1)) 1040 (rF s41 0 39) 5) 0 39 ((rF s41 0 39) + 1)) 5 v41 x1 gg W98 (r_lit rfl) hv41 hx1 p99) dmX14_note zf14 rOb_0 dX14_readSteering_89 zw3111 rfl rfl (Nat.le_of_ble_eq_true rfl) (Nat.le_of_ble_eq_true rfl) (by omega) (by omega) (Nat.le_of_ble_eq_true rfl) (kk := fun s89 Ws89 qs89 => ?_)
        have h := h s89 Ws89 (rNMp.keep qs89.1 rfl rfl rfl rfl rfl) (TPRp.keep qs89.1 rfl rfl rfl) (PNp.keep qs89.1 rfl rfl rfl rfl rfl) (CCp.keep qs89.1 rfl rfl rfl rfl rfl rfl rfl) (qs89.1.R rfl) (qs89.1.F rfl) (qs89.1.F rfl) (qs89.1.F rfl) (qs89.1.F rfl) (qs89.1.F rfl) (qs89.1.F rfl) (qs89.1.F rfl) (qs89.1.F rfl) (qs89.1.F rfl) (qs89.1.F rfl) (fun i => qs89.1.A (f := 26) (by decide) rfl) (fun i => qs89.1.A (f := 40) (by decide) rfl) (qs89.1.FG g0 rfl) (qs89.1.FG g0 rfl) (qs89.1.FG g0 rfl) (qs89.1.FG g0 rfl) (qs89.1.FG g0 rfl) (fz_keep qs89.1 rfl) qs89.2
        refine z_goto hC (pc := 92) 339 dX14_readSteering_92 (by decide) ?_
        exact y_retv hR dX14_readSteering_339 Ws89 (Nat.le_of_ble_eq_true rfl) (Nat.le_of_ble_eq_true rfl) ⟨(rKeep.tr (rKeep.tr (rKeep.tr (rKeep.tr (rKeep.tr (rKeep.tr (rKeep.tr rKeep.rf (rKeep.sF0 (f := 29)) rfl rfl rfl rfl rfl) qs37.1 rfl rfl rfl rfl rfl) qs41.1 rfl rfl rfl rfl rfl) (rKeep.sF0 (f := 31)) rfl rfl rfl rfl rfl) (rKeep.sA0 (f := 40) (by decide)) rfl rfl rfl rfl rfl) (rKeep.sF0 (f := 39)) rfl rfl rfl rfl rfl) qs89.1 rfl rfl rfl rfl rfl), h⟩
      · have h := hF c
        exact y_retv hR dX14_readSteering_53 Ws41 (Nat.le_of_ble_eq_true rfl) (Nat.le_of_ble_eq_true rfl) ⟨(rKeep.tr (rKeep.tr (rKeep.tr rKeep.rf (rKeep.sF0 (f := 29)) rfl rfl rfl rfl rfl) qs37.1 rfl rfl rfl rfl rfl) qs41.1 rfl rfl rfl rfl rfl), h⟩
theorem kX14_readSteering (l : Launch) (G : zG) (κ : Nat → Nat) (n : Nat) (ih : Q_rd l G κ n) (σ : rS) (x1 : Int) (x2 : Int) (gg : Nat) (g : Nat → Int → Int) (L : List Int) (hwf : rWF σ) (hx1 : rng x1) (hx2 : rng x2) (hp : pre_X14_readSteering σ x1 x2 gg g L) (hr : rk_X14_readSteering σ x1 x2 gg g L ≤ n + 1) : rMv l G κ yX14_readSteering cX14_readSteering 5 (n + 1 + 100) ((n + 1) * 40 + 3600) [.ref (κ 0), iv x1, iv x2] σ (fun s => rKeep 0x6c0a3001c00 0x4100001280 0x13c00000000 0x3ee0000d7f 0 σ s ∧ post_X14_readSteering σ x1 x2 gg g L s) := wX14_readSteering l G κ n ih σ x1 x2 gg g L hwf hx1 hx2 (post_X14_readSteering σ x1 x2 gg g L) (vX14_readSteering n σ x1 x2 gg g L hwf hx1 hx2 hp hr) 
theorem wX14_readTag (l : Launch) (G : zG) (κ : Nat → Nat) (n : Nat) (ih : Q_rd l G κ n) (σ : rS) (x1 : Int) (gg : Nat) (g : Nat → Int → Int) (L : List Int) (hwf : rWF σ) (hx1 : rng x1) (Q : rS → Prop) (h : VC_X14_readTag n σ x1 gg g L Q) (h_31 : VC_X14_readTag_31 n σ x1 gg g L Q) (h_31m : VC_X14_readTag_31m n σ x1 gg g L) : rMv l G κ yX14_readTag cX14_readTag 4 (n + 1 + 100) ((n + 1) * 40 + 3600) [.ref (κ 0), iv x1] σ (fun s => rKeep 0x6c0a3001c00 0x4100001280 0x13c00000000 0x3ee0000d7f 0 σ s ∧ Q s) := by
  refine zMv.intro (by decide +kernel) (Nat.le_of_ble_eq_true rfl) (fun X hC hR => ?_)
  obtain ⟨g0, h⟩ := h
  refine z_aload_n hC (pc := 0) 0 dX14_readTag_0 rfl rfl ?_
  obtain ⟨p10, h⟩ := h
  refine y_callVi hC (pc := 1) (As := []) (kX14_place l G κ σ  hwf  p10) dmX14_place zf14 rOb_0 dX14_readTag_1 zw3103 rfl rfl (Nat.le_of_ble_eq_true rfl) (Nat.le_of_ble_eq_true rfl) (by omega) (by omega) (Nat.le_of_ble_eq_true rfl) (kk := fun v1 s1 hv1 Ws1 qs1 => ?_)
  obtain ⟨es1, qs1⟩ := qs1
  have es1 := es1.symm
  subst es1
  have h := h v1 hv1 qs1
  refine z_istore_n hC (pc := 4) (lv' := [(2, iv v1), (0, .ref (κ 0)), (1, iv x1)]) dX14_readTag_4 rfl (by decide) rfl ?_
  refine z_aload_n hC (pc := 5) 1 dX14_readTag_5 rfl rfl ?_
  refine z_dup hC (pc := 6) dX14_readTag_6 rfl ?_
  refine y_get hC (pc := 7) zf14 rOb_0 29 (v := iv (rF σ 0 29)) dX14_readTag_7 zw2496 (rv_i (Or.inl rfl) rfl) (kk := ?_)
  have h := h (hwf.f _ _)
  refine z_iconst hC (pc := 10) (v := Int32.ofInt 1) dX14_readTag_10 (by decide) ?_
  refine y_iadd hC (pc := 11) (v := ((rF σ 0 29) + 1)) dX14_readTag_11 rfl ?_
  obtain ⟨r11, h⟩ := h
  refine y_putI hC (pc := 12) zf14 rOb_0 29 (x := ((rF σ 0 29) + 1)) dX14_readTag_12 zw2496 (Or.inl rfl) rfl rfl (kk := ?_)
  have W12 := hwf.sF (q := 0) (f := 29) (x := ((rF σ 0 29) + 1)) r11
  refine z_aload_n hC (pc := 15) 1 dX14_readTag_15 rfl rfl ?_
  obtain ⟨p13, h⟩ := h
  refine y_callVi hC (pc := 16) (As := []) (kX14_here l G κ (sF σ 0 29 ((rF σ 0 29) + 1))  W12  p13) dmX14_here zf14 rOb_0 dX14_readTag_16 zw3099 rfl rfl (Nat.le_of_ble_eq_true rfl) (Nat.le_of_ble_eq_true rfl) (by omega) (by omega) (Nat.le_of_ble_eq_true rfl) (kk := fun v16 s16 hv16 Ws16 qs16 => ?_)
  obtain ⟨es16, qs16⟩ := qs16
  have es16 := es16.symm
  subst es16
  have h := h v16 hv16 qs16
  refine z_bipush hC (pc := 19) (v := Int32.ofInt 33) dX14_readTag_19 (by decide) ?_
  obtain ⟨hT, hF⟩ := h
  refine y_icmp_ne hC (pc := 21) 108 hv16 (r_lit rfl) dX14_readTag_21 (by decide) (fun c => ?_) (fun c => ?_)
  · have h := hT c
    refine z_aload_n hC (pc := 108) 1 dX14_readTag_108 rfl rfl ?_
    obtain ⟨p14, h⟩ := h
    refine y_callVi hC (pc := 109) (As := []) (kX14_here l G κ (sF σ 0 29 ((rF σ 0 29) + 1))  W12  p14) dmX14_here zf14 rOb_0 dX14_readTag_109 zw3099 rfl rfl (Nat.le_of_ble_eq_true rfl) (Nat.le_of_ble_eq_true rfl) (by omega) (by omega) (Nat.le_of_ble_eq_true rfl) (kk := fun v109 s109 hv109 Ws109 qs109 => ?_)
    obtain ⟨es109, qs109⟩ := qs109
    have es109 := es109.symm
    subst es109
    have h := h v109 hv109 qs109
    refine z_bipush hC (pc := 112) (v := Int32.ofInt 92) dX14_readTag_112 (by decide) ?_
    obtain ⟨hT, hF⟩ := h
    refine y_icmp_ne hC (pc := 114) 123 hv109 (r_lit rfl) dX14_readTag_114 (by decide) (fun c => ?_) (fun c => ?_)
    · have h := hT c
      refine z_aload_n hC (pc := 123) 1 dX14_readTag_123 rfl rfl ?_
      obtain ⟨p15, h⟩ := h
      refine y_callVv hC (pc := 124) (As := []) (kX14_blanks l G κ (sF σ 0 29 ((rF σ 0 29) + 1))  W12  p15) dmX14_blanks zf14 rOb_0 dX14_readTag_124 zw3119 rfl rfl (Nat.le_of_ble_eq_true rfl) (Nat.le_of_ble_eq_true rfl) (by omega) (by omega) (Nat.le_of_ble_eq_true rfl) (kk := fun s124 Ws124 qs124 => ?_)
      have h := h s124 Ws124 (rNMp.keep qs124.1 rfl rfl rfl rfl rfl) (TPRp.keep qs124.1 rfl rfl rfl) (WNp.keep qs124.1 rfl rfl rfl rfl rfl) (PNp.keep qs124.1 rfl rfl rfl rfl rfl) (CCp.keep qs124.1 rfl rfl rfl rfl rfl rfl rfl) (qs124.1.R rfl) (qs124.1.F rfl) (qs124.1.F rfl) (qs124.1.F rfl) (qs124.1.F rfl) (qs124.1.F rfl) (qs124.1.F rfl) (qs124.1.F rfl) (qs124.1.F rfl) (qs124.1.F rfl) (qs124.1.F rfl) (fun i => qs124.1.A (f := 26) (by decide) rfl) (fun i => qs124.1.A (f := 34) (by decide) rfl) (fun i => qs124.1.A (f := 35) (by decide) rfl) (fun i => qs124.1.A (f := 37) (by decide) rfl) (fun i => qs124.1.A (f := 40) (by decide) rfl) (qs124.1.FG g0 rfl) (qs124.1.FG g0 rfl) (qs124.1.FG g0 rfl) (qs124.1.FG g0 rfl) (qs124.1.FG g0 rfl) (fz_keep qs124.1 rfl) (RG.keep (c0 := 0) qs124.1 rfl rfl rfl rfl rfl rfl rfl rfl rfl rfl rfl rfl rfl rfl rfl rfl rfl rfl) qs124.2
      refine z_aload_n hC (pc := 127) 1 dX14_readTag_127 rfl rfl ?_
      obtain ⟨p16, h⟩ := h
      refine y_callVi hC (pc := 128) (As := []) (kX14_here l G κ s124  Ws124  p16) dmX14_here zf14 rOb_0 dX14_readTag_128 zw3099 rfl rfl (Nat.le_of_ble_eq_true rfl) (Nat.le_of_ble_eq_true rfl) (by omega) (by omega) (Nat.le_of_ble_eq_true rfl) (kk := fun v128 s128 hv128 Ws128 qs128 => ?_)
      obtain ⟨es128, qs128⟩ := qs128
      have es128 := es128.symm
      subst es128
      have h := h v128 hv128 qs128
      refine z_bipush hC (pc := 131) (v := Int32.ofInt 64) dX14_readTag_131 (by decide) ?_
      obtain ⟨hT, hF⟩ := h
      refine y_icmp_ne hC (pc := 133) 145 hv128 (r_lit rfl) dX14_readTag_133 (by decide) (fun c => ?_) (fun c => ?_)
      · have h := hT c
        refine z_aload_n hC (pc := 145) 1 dX14_readTag_145 rfl rfl ?_
        obtain ⟨p17, h⟩ := h
        refine y_callVi hC (pc := 146) (As := []) (kX14_isSteering_t l G κ s124  Ws124  p17) dmX14_isSteering zf14 rOb_0 dX14_readTag_146 zw3158 rfl rfl (Nat.le_of_ble_eq_true rfl) (Nat.le_of_ble_eq_true rfl) (by omega) (by omega) (Nat.le_of_ble_eq_true rfl) (kk := fun v146 s146 hv146 Ws146 qs146 => ?_)
        obtain ⟨es146, qs146⟩ := qs146
        have es146 := es146.symm
        subst es146
        have h := h v146 hv146 qs146
        obtain ⟨hT, hF⟩ := h
        refine y_if_eq hC (pc := 149) 161 hv146 dX14_readTag_149 (by decide) (fun c => ?_) (fun c => ?_)
        · have h := hT c
          refine z_aload_n hC (pc := 161) 1 dX14_readTag_161 rfl rfl ?_
          refine z_iload_n hC (pc := 162) 0 dX14_readTag_162 rfl rfl ?_
          obtain ⟨g18, h⟩ := h
          obtain ⟨p19, h⟩ := h
          obtain ⟨p20, h⟩ := h
          refine y_callVv hC (pc := 163) (As := [iv v1]) (qX14_readExpre ih s124 v1 gg g18 Ws124 hv1 p19 p20) dmX14_readExpr zf14 rOb_0 dX14_readTag_163 zw3274 rfl rfl (Nat.le_of_ble_eq_true rfl) (Nat.le_of_ble_eq_true rfl) (by omega) (by omega) (Nat.le_of_ble_eq_true rfl) (kk := fun s163 Ws163 qs163 => ?_)
          have h := h s163 Ws163 (TPRp.keep qs163.1 rfl rfl rfl) (CCp.keep qs163.1 rfl rfl rfl rfl rfl rfl rfl) (qs163.1.R rfl) (qs163.1.F rfl) (qs163.1.F rfl) (qs163.1.F rfl) (qs163.1.F rfl) (qs163.1.F rfl) (qs163.1.F rfl) (fun i => qs163.1.A (f := 26) (by decide) rfl) qs163.2
          exact y_retv hR dX14_readTag_166 Ws163 (Nat.le_of_ble_eq_true rfl) (Nat.le_of_ble_eq_true rfl) ⟨(rKeep.tr (rKeep.tr (rKeep.tr rKeep.rf (rKeep.sF0 (f := 29)) rfl rfl rfl rfl rfl) qs124.1 rfl rfl rfl rfl rfl) qs163.1 rfl rfl rfl rfl rfl), h⟩
        · have h := hF c
          refine z_aload_n hC (pc := 152) 1 dX14_readTag_152 rfl rfl ?_
          refine z_iload_n hC (pc := 153) 0 dX14_readTag_153 rfl rfl ?_
          refine z_iload_n hC (pc := 154) 2 dX14_readTag_154 rfl rfl ?_
          obtain ⟨g21, h⟩ := h
          obtain ⟨p22, h⟩ := h
          obtain ⟨p23, h⟩ := h
          refine y_callVv hC (pc := 155) (As := [iv v1, iv x1]) (qX14_readSteering ih s124 v1 x1 gg g21 L Ws124 hv1 hx1 p22 p23) dmX14_readSteering zf14 rOb_0 dX14_readTag_155 zw3182 rfl rfl (Nat.le_of_ble_eq_true rfl) (Nat.le_of_ble_eq_true rfl) (by omega) (by omega) (Nat.le_of_ble_eq_true rfl) (kk := fun s155 Ws155 qs155 => ?_)
          have h := h s155 Ws155 (TPRp.keep qs155.1 rfl rfl rfl) (CCp.keep qs155.1 rfl rfl rfl rfl rfl rfl rfl) (qs155.1.R rfl) (qs155.1.F rfl) (qs155.1.F rfl) (qs155.1.F rfl) (qs155.1.F rfl) (qs155.1.F rfl) (qs155.1.F rfl) (fun i => qs155.1.A (f := 26) (by decide) rfl) qs155.2
          refine z_goto hC (pc := 158) 166 dX14_readTag_158 (by decide) ?_
          exact y_retv hR dX14_readTag_166 Ws155 (Nat.le_of_ble_eq_true rfl) (Nat.le_of_ble_eq_true rfl) ⟨(rKeep.tr (rKeep.tr (rKeep.tr rKeep.rf (rKeep.sF0 (f := 29)) rfl rfl rfl rfl rfl) qs124.1 rfl rfl rfl rfl rfl) qs155.1 rfl rfl rfl rfl rfl), h⟩
      · have h := hF c
        refine z_aload_n hC (pc := 136) 1 dX14_readTag_136 rfl rfl ?_
        refine z_iload_n hC (pc := 137) 0 dX14_readTag_137 rfl rfl ?_
        refine z_iload_n hC (pc := 138) 2 dX14_readTag_138 rfl rfl ?_
        obtain ⟨g24, h⟩ := h
        obtain ⟨p25, h⟩ := h
        obtain ⟨p26, h⟩ := h
        refine y_callVv hC (pc := 139) (As := [iv v1, iv x1]) (qX14_readAt ih s124 v1 x1 gg g24 L Ws124 hv1 hx1 p25 p26) dmX14_readAt zf14 rOb_0 dX14_readTag_139 zw3123 rfl rfl (Nat.le_of_ble_eq_true rfl) (Nat.le_of_ble_eq_true rfl) (by omega) (by omega) (Nat.le_of_ble_eq_true rfl) (kk := fun s139 Ws139 qs139 => ?_)
        have h := h s139 Ws139 (TPRp.keep qs139.1 rfl rfl rfl) (CCp.keep qs139.1 rfl rfl rfl rfl rfl rfl rfl) (qs139.1.R rfl) (qs139.1.F rfl) (qs139.1.F rfl) (qs139.1.F rfl) (qs139.1.F rfl) (qs139.1.F rfl) (qs139.1.F rfl) (fun i => qs139.1.A (f := 26) (by decide) rfl) qs139.2
        refine z_goto hC (pc := 142) 166 dX14_readTag_142 (by decide) ?_
        exact y_retv hR dX14_readTag_166 Ws139 (Nat.le_of_ble_eq_true rfl) (Nat.le_of_ble_eq_true rfl) ⟨(rKeep.tr (rKeep.tr (rKeep.tr rKeep.rf (rKeep.sF0 (f := 29)) rfl rfl rfl rfl rfl) qs124.1 rfl rfl rfl rfl rfl) qs139.1 rfl rfl rfl rfl rfl), h⟩
    · have h := hF c
      refine z_aload_n hC (pc := 117) 1 dX14_readTag_117 rfl rfl ?_
      refine z_iload_n hC (pc := 118) 0 dX14_readTag_118 rfl rfl ?_
      obtain ⟨p27, h⟩ := h
      refine y_callVv hC (pc := 119) (As := [iv v1]) (kX14_readBytes_t l G κ (sF σ 0 29 ((rF σ 0 29) + 1)) v1 gg W12 hv1 p27) dmX14_readBytes zf14 rOb_0 dX14_readTag_119 zw3115 rfl rfl (Nat.le_of_ble_eq_true rfl) (Nat.le_of_ble_eq_true rfl) (by omega) (by omega) (Nat.le_of_ble_eq_true rfl) (kk := fun s119 Ws119 qs119 => ?_)
      have h := h s119 Ws119 (rNMp.keep qs119.1 rfl rfl rfl rfl rfl) (TPRp.keep qs119.1 rfl rfl rfl) (PNp.keep qs119.1 rfl rfl rfl rfl rfl) (CCp.keep qs119.1 rfl rfl rfl rfl rfl rfl rfl) (qs119.1.R rfl) (qs119.1.F rfl) (qs119.1.F rfl) (qs119.1.F rfl) (qs119.1.F rfl) (qs119.1.F rfl) (qs119.1.F rfl) (qs119.1.F rfl) (qs119.1.F rfl) (fun i => qs119.1.A (f := 26) (by decide) rfl) (fun i => qs119.1.A (f := 40) (by decide) rfl) (qs119.1.FG g0 rfl) (qs119.1.FG g0 rfl) (qs119.1.FG g0 rfl) (qs119.1.FG g0 rfl) (qs119.1.FG g0 rfl) qs119.2
      exact y_retv hR dX14_readTag_122 Ws119 (Nat.le_of_ble_eq_true rfl) (Nat.le_of_ble_eq_true rfl) ⟨(rKeep.tr (rKeep.tr rKeep.rf (rKeep.sF0 (f := 29)) rfl rfl rfl rfl rfl) qs119.1 rfl rfl rfl rfl rfl), h⟩
  · have h := hF c
    refine z_aload_n hC (pc := 24) 1 dX14_readTag_24 rfl rfl ?_
    refine y_get hC (pc := 25) zf14 rOb_0 29 (v := iv ((rF σ 0 29) + 1)) dX14_readTag_25 zw2496 (rv_i (Or.inl rfl) (F_sF _ _ _ _)) (kk := ?_)
    refine z_iconst hC (pc := 28) (v := Int32.ofInt 1) dX14_readTag_28 (by decide) ?_
    refine y_iadd hC (pc := 29) (v := (((rF σ 0 29) + 1) + 1)) dX14_readTag_29 rfl ?_
    refine z_istore_n hC (pc := 30) (lv' := [(3, iv (((rF σ 0 29) + 1) + 1)), (2, iv v1), (0, .ref (κ 0)), (1, iv x1)]) dX14_readTag_30 rfl (by decide) rfl ?_
    have j31 : ∀ (d31 : Nat), ∀ (s31 : rS) (y31_2 : Int) (y31_3 : Int), rWF s31 → rng y31_2 → rng y31_3 → rKeep 0x6c0a3001c00 0x4100001280 0x13c00000000 0x3ee0000d7f 0 σ s31 → inv_X14_readTag_31 σ x1 gg g L s31 y31_2 y31_3 → (mu_X14_readTag_31 σ x1 gg g L s31 y31_2 y31_3) ≤ d31 → zS X G 4 (rW G κ s31) [(0, .ref (κ 0)), (2, iv y31_2), (3, iv y31_3)] 0 0 31 [] := by
      intro d31
      induction d31 with
      | zero =>
        intro s31 y31_2 y31_3 Ws31 hy31_2 hy31_3 kJ hI hmu
        exact absurd hmu (by have := h_31m  s31 y31_2 y31_3 Ws31 hy31_2 hy31_3 (TPRp.keep kJ rfl rfl rfl) (CCp.keep kJ rfl rfl rfl rfl rfl rfl rfl) (kJ.R rfl) (kJ.F rfl) (kJ.F rfl) (kJ.F rfl) (kJ.F rfl) (kJ.F rfl) (kJ.F rfl) (fun i => kJ.A (f := 26) (by decide) rfl) hI; omega)
      | succ d31 ih31 =>
        intro s31 y31_2 y31_3 Ws31 hy31_2 hy31_3 kJ hI hmu31
        have h := h_31  s31 y31_2 y31_3 Ws31 hy31_2 hy31_3 (TPRp.keep kJ rfl rfl rfl) (CCp.keep kJ rfl rfl rfl rfl rfl rfl rfl) (kJ.R rfl) (kJ.F rfl) (kJ.F rfl) (kJ.F rfl) (kJ.F rfl) (kJ.F rfl) (kJ.F rfl) (fun i => kJ.A (f := 26) (by decide) rfl) hI
        refine z_iload_n hC (pc := 31) 2 dX14_readTag_31 rfl rfl ?_
        refine z_iconst hC (pc := 32) (v := Int32.ofInt 1) dX14_readTag_32 (by decide) ?_
        refine y_iadd hC (pc := 33) (v := (y31_3 + 1)) dX14_readTag_33 rfl ?_
        refine z_aload_n hC (pc := 34) 0 dX14_readTag_34 rfl rfl ?_
        refine y_get hC (pc := 35) zf14 rOb_0 28 (v := iv (rF s31 0 28)) dX14_readTag_35 zw2495 (rv_i (Or.inl rfl) rfl) (kk := ?_)
        have h := h (Ws31.f _ _)
        obtain ⟨r28, h⟩ := h
        obtain ⟨hT, hF⟩ := h
        refine y_icmp_ge hC (pc := 38) 73 r28 (Ws31.f _ _) dX14_readTag_38 (by decide) (fun c => ?_) (fun c => ?_)
        · have h := hT c
          refine z_iload_n hC (pc := 73) 2 dX14_readTag_73 rfl rfl ?_
          refine z_iconst hC (pc := 74) (v := Int32.ofInt 1) dX14_readTag_74 (by decide) ?_
          refine y_iadd hC (pc := 75) (v := (y31_3 + 1)) dX14_readTag_75 rfl ?_
          refine z_aload_n hC (pc := 76) 0 dX14_readTag_76 rfl rfl ?_
          refine y_get hC (pc := 77) zf14 rOb_0 28 (v := iv (rF s31 0 28)) dX14_readTag_77 zw2495 (rv_i (Or.inl rfl) rfl) (kk := ?_)
          obtain ⟨hT, hF⟩ := h
          refine y_icmp_lt hC (pc := 80) 92 r28 (Ws31.f _ _) dX14_readTag_80 (by decide) (fun c => ?_) (fun c => ?_)
          · have h := hT c
            refine z_aload_n hC (pc := 92) 0 dX14_readTag_92 rfl rfl ?_
            refine z_iload_n hC (pc := 93) 2 dX14_readTag_93 rfl rfl ?_
            refine z_iconst hC (pc := 94) (v := Int32.ofInt 2) dX14_readTag_94 (by decide) ?_
            refine y_iadd hC (pc := 95) (v := (y31_3 + 2)) dX14_readTag_95 rfl ?_
            obtain ⟨r29, h⟩ := h
            refine y_putI hC (pc := 96) zf14 rOb_0 29 (x := (y31_3 + 2)) dX14_readTag_96 zw2496 (Or.inl rfl) rfl rfl (kk := ?_)
            have W30 := Ws31.sF (q := 0) (f := 29) (x := (y31_3 + 2)) r29
            refine z_aload_n hC (pc := 99) 0 dX14_readTag_99 rfl rfl ?_
            refine z_bipush hC (pc := 100) (v := Int32.ofInt 21) dX14_readTag_100 (by decide) ?_
            refine z_iconst hC (pc := 102) (v := Int32.ofInt 0) dX14_readTag_102 (by decide) ?_
            refine z_iload_n hC (pc := 103) 1 dX14_readTag_103 rfl rfl ?_
            obtain ⟨p31, h⟩ := h
            refine y_callVv hC (pc := 104) (As := [iv 21, iv 0, iv y31_2]) (kX14_note_t l G κ (sF s31 0 29 (y31_3 + 2)) 21 0 y31_2 gg W30 (r_lit rfl) (r_lit rfl) hy31_2 p31) dmX14_note zf14 rOb_0 dX14_readTag_104 zw3111 rfl rfl (Nat.le_of_ble_eq_true rfl) (Nat.le_of_ble_eq_true rfl) (by omega) (by omega) (Nat.le_of_ble_eq_true rfl) (kk := fun s104 Ws104 qs104 => ?_)
            have h := h s104 Ws104 (rNMp.keep qs104.1 rfl rfl rfl rfl rfl) (TPRp.keep qs104.1 rfl rfl rfl) (PNp.keep qs104.1 rfl rfl rfl rfl rfl) (CCp.keep qs104.1 rfl rfl rfl rfl rfl rfl rfl) (qs104.1.R rfl) (qs104.1.F rfl) (qs104.1.F rfl) (qs104.1.F rfl) (qs104.1.F rfl) (qs104.1.F rfl) (qs104.1.F rfl) (qs104.1.F rfl) (qs104.1.F rfl) (qs104.1.F rfl) (qs104.1.F rfl) (fun i => qs104.1.A (f := 26) (by decide) rfl) (fun i => qs104.1.A (f := 40) (by decide) rfl) (qs104.1.FG g0 rfl) (qs104.1.FG g0 rfl) (qs104.1.FG g0 rfl) (qs104.1.FG g0 rfl) (qs104.1.FG g0 rfl) (fz_keep qs104.1 rfl) qs104.2
            exact y_retv hR dX14_readTag_107 Ws104 (Nat.le_of_ble_eq_true rfl) (Nat.le_of_ble_eq_true rfl) ⟨(rKeep.tr (rKeep.tr (rKeep.tr rKeep.rf kJ rfl rfl rfl rfl rfl) (rKeep.sF0 (f := 29)) rfl rfl rfl rfl rfl) qs104.1 rfl rfl rfl rfl rfl), h⟩
          · have h := hF c
            refine z_aload_n hC (pc := 83) 0 dX14_readTag_83 rfl rfl ?_
            refine z_iconst hC (pc := 84) (v := Int32.ofInt 1) dX14_readTag_84 (by decide) ?_
            refine z_aload_n hC (pc := 85) 0 dX14_readTag_85 rfl rfl ?_
            refine y_get hC (pc := 86) zf14 rOb_0 30 (v := iv (rF s31 0 30)) dX14_readTag_86 zw2497 (rv_i (Or.inl rfl) rfl) (kk := ?_)
            have h := h (Ws31.f _ _)
            obtain ⟨p32, h⟩ := h
            refine y_callVv hC (pc := 89) (As := [iv 1, iv (rF s31 0 30)]) (kX14_bad l G κ s31 1 (rF s31 0 30) Ws31 (r_lit rfl) (Ws31.f _ _) p32) dmX14_bad zf14 rOb_0 dX14_readTag_89 zw3000 rfl rfl (Nat.le_of_ble_eq_true rfl) (Nat.le_of_ble_eq_true rfl) (by omega) (by omega) (Nat.le_of_ble_eq_true rfl) (kk := fun s89 Ws89 qs89 => ?_)
            have h := h s89 Ws89 (rNMp.keep qs89.1 rfl rfl rfl rfl rfl) (TPRp.keep qs89.1 rfl rfl rfl) (WNp.keep qs89.1 rfl rfl rfl rfl rfl) (PNp.keep qs89.1 rfl rfl rfl rfl rfl) (CCp.keep qs89.1 rfl rfl rfl rfl rfl rfl rfl) (qs89.1.R rfl) (qs89.1.F rfl) (qs89.1.F rfl) (qs89.1.F rfl) (qs89.1.F rfl) (qs89.1.F rfl) (qs89.1.F rfl) (qs89.1.F rfl) (qs89.1.F rfl) (qs89.1.F rfl) (qs89.1.F rfl) (fun i => qs89.1.A (f := 26) (by decide) rfl) (fun i => qs89.1.A (f := 34) (by decide) rfl) (fun i => qs89.1.A (f := 35) (by decide) rfl) (fun i => qs89.1.A (f := 37) (by decide) rfl) (fun i => qs89.1.A (f := 40) (by decide) rfl) (qs89.1.FG g0 rfl) (qs89.1.FG g0 rfl) (qs89.1.FG g0 rfl) (qs89.1.FG g0 rfl) (qs89.1.FG g0 rfl) (RG.keep (c0 := 0) qs89.1 rfl rfl rfl rfl rfl rfl rfl rfl rfl rfl rfl rfl rfl rfl rfl rfl rfl rfl) qs89.2
            refine z_aload_n hC (pc := 92) 0 dX14_readTag_92 rfl rfl ?_
            refine z_iload_n hC (pc := 93) 2 dX14_readTag_93 rfl rfl ?_
            refine z_iconst hC (pc := 94) (v := Int32.ofInt 2) dX14_readTag_94 (by decide) ?_
            refine y_iadd hC (pc := 95) (v := (y31_3 + 2)) dX14_readTag_95 rfl ?_
            obtain ⟨r33, h⟩ := h
            refine y_putI hC (pc := 96) zf14 rOb_0 29 (x := (y31_3 + 2)) dX14_readTag_96 zw2496 (Or.inl rfl) rfl rfl (kk := ?_)
            have W34 := Ws89.sF (q := 0) (f := 29) (x := (y31_3 + 2)) r33
            refine z_aload_n hC (pc := 99) 0 dX14_readTag_99 rfl rfl ?_
            refine z_bipush hC (pc := 100) (v := Int32.ofInt 21) dX14_readTag_100 (by decide) ?_
            refine z_iconst hC (pc := 102) (v := Int32.ofInt 0) dX14_readTag_102 (by decide) ?_
            refine z_iload_n hC (pc := 103) 1 dX14_readTag_103 rfl rfl ?_
            obtain ⟨p35, h⟩ := h
            refine y_callVv hC (pc := 104) (As := [iv 21, iv 0, iv y31_2]) (kX14_note_t l G κ (sF s89 0 29 (y31_3 + 2)) 21 0 y31_2 gg W34 (r_lit rfl) (r_lit rfl) hy31_2 p35) dmX14_note zf14 rOb_0 dX14_readTag_104 zw3111 rfl rfl (Nat.le_of_ble_eq_true rfl) (Nat.le_of_ble_eq_true rfl) (by omega) (by omega) (Nat.le_of_ble_eq_true rfl) (kk := fun s104 Ws104 qs104 => ?_)
            have h := h s104 Ws104 (rNMp.keep qs104.1 rfl rfl rfl rfl rfl) (TPRp.keep qs104.1 rfl rfl rfl) (PNp.keep qs104.1 rfl rfl rfl rfl rfl) (CCp.keep qs104.1 rfl rfl rfl rfl rfl rfl rfl) (qs104.1.R rfl) (qs104.1.F rfl) (qs104.1.F rfl) (qs104.1.F rfl) (qs104.1.F rfl) (qs104.1.F rfl) (qs104.1.F rfl) (qs104.1.F rfl) (qs104.1.F rfl) (qs104.1.F rfl) (qs104.1.F rfl) (fun i => qs104.1.A (f := 26) (by decide) rfl) (fun i => qs104.1.A (f := 40) (by decide) rfl) (qs104.1.FG g0 rfl) (qs104.1.FG g0 rfl) (qs104.1.FG g0 rfl) (qs104.1.FG g0 rfl) (qs104.1.FG g0 rfl) (fz_keep qs104.1 rfl) qs104.2
            exact y_retv hR dX14_readTag_107 Ws104 (Nat.le_of_ble_eq_true rfl) (Nat.le_of_ble_eq_true rfl) ⟨(rKeep.tr (rKeep.tr (rKeep.tr (rKeep.tr rKeep.rf kJ rfl rfl rfl rfl rfl) qs89.1 rfl rfl rfl rfl rfl) (rKeep.sF0 (f := 29)) rfl rfl rfl rfl rfl) qs104.1 rfl rfl rfl rfl rfl), h⟩
        · have h := hF c
          refine z_aload_n hC (pc := 41) 0 dX14_readTag_41 rfl rfl ?_
          refine y_get hC (pc := 42) zf14 rOb_0 26 (v := .ref (κ 1026)) dX14_readTag_42 zw2493 (rv_c rfl) (kk := ?_)
          refine z_iload_n hC (pc := 45) 2 dX14_readTag_45 rfl rfl ?_
          obtain ⟨b36, h⟩ := h
          refine y_bald hC (pc := 46) (rAr_m rfl) dX14_readTag_46 b36 (v := (rA s31 1026 y31_3)) rfl (kk := ?_)
          have h := h (Ws31.a _ _)
          refine z_bipush hC (pc := 47) (v := Int32.ofInt 33) dX14_readTag_47 (by decide) ?_
          obtain ⟨hT, hF⟩ := h
          refine y_icmp_ne hC (pc := 49) 67 (Ws31.a _ _) (r_lit rfl) dX14_readTag_49 (by decide) (fun c => ?_) (fun c => ?_)
          · have h := hT c
            refine y_iinc hC (pc := 67) (v := (y31_3 + 1)) (lv' := [(3, iv (y31_3 + 1)), (0, .ref (κ 0)), (2, iv y31_2)]) 2 dX14_readTag_67 rfl rfl (by decide) rfl ?_
            refine z_goto hC (pc := 70) 31 dX14_readTag_70 (by decide) ?_
            refine z_lvs [1, 2, 0] rfl ?_
            obtain ⟨hI, hm⟩ := h
            exact ih31 s31 y31_2 (y31_3 + 1) Ws31 hy31_2 r28 (rKeep.tr rKeep.rf kJ rfl rfl rfl rfl rfl) hI (by omega)
          · have h := hF c
            refine z_aload_n hC (pc := 52) 0 dX14_readTag_52 rfl rfl ?_
            refine y_get hC (pc := 53) zf14 rOb_0 26 (v := .ref (κ 1026)) dX14_readTag_53 zw2493 (rv_c rfl) (kk := ?_)
            refine z_iload_n hC (pc := 56) 2 dX14_readTag_56 rfl rfl ?_
            refine z_iconst hC (pc := 57) (v := Int32.ofInt 1) dX14_readTag_57 (by decide) ?_
            refine y_iadd hC (pc := 58) (v := (y31_3 + 1)) dX14_readTag_58 rfl ?_
            obtain ⟨b37, h⟩ := h
            refine y_bald hC (pc := 59) (rAr_m rfl) dX14_readTag_59 b37 (v := (rA s31 1026 (y31_3 + 1))) rfl (kk := ?_)
            have h := h (Ws31.a _ _)
            refine z_aload_n hC (pc := 60) 0 dX14_readTag_60 rfl rfl ?_
            refine y_get hC (pc := 61) zf14 rOb_0 19 (v := iv (rF s31 0 19)) dX14_readTag_61 zw2486 (rv_i (Or.inl rfl) rfl) (kk := ?_)
            have h := h (Ws31.f _ _)
            obtain ⟨hT, hF⟩ := h
            refine y_icmp_eq hC (pc := 64) 73 (Ws31.a _ _) (Ws31.f _ _) dX14_readTag_64 (by decide) (fun c => ?_) (fun c => ?_)
            · have h := hT c
              refine z_iload_n hC (pc := 73) 2 dX14_readTag_73 rfl rfl ?_
              refine z_iconst hC (pc := 74) (v := Int32.ofInt 1) dX14_readTag_74 (by decide) ?_
              refine y_iadd hC (pc := 75) (v := (y31_3 + 1)) dX14_readTag_75 rfl ?_
              refine z_aload_n hC (pc := 76) 0 dX14_readTag_76 rfl rfl ?_
              refine y_get hC (pc := 77) zf14 rOb_0 28 (v := iv (rF s31 0 28)) dX14_readTag_77 zw2495 (rv_i (Or.inl rfl) rfl) (kk := ?_)
              obtain ⟨hT, hF⟩ := h
              refine y_icmp_lt hC (pc := 80) 92 r28 (Ws31.f _ _) dX14_readTag_80 (by decide) (fun c => ?_) (fun c => ?_)
              · have h := hT c
                refine z_aload_n hC (pc := 92) 0 dX14_readTag_92 rfl rfl ?_
                refine z_iload_n hC (pc := 93) 2 dX14_readTag_93 rfl rfl ?_
                refine z_iconst hC (pc := 94) (v := Int32.ofInt 2) dX14_readTag_94 (by decide) ?_
                refine y_iadd hC (pc := 95) (v := (y31_3 + 2)) dX14_readTag_95 rfl ?_
                obtain ⟨r38, h⟩ := h
                refine y_putI hC (pc := 96) zf14 rOb_0 29 (x := (y31_3 + 2)) dX14_readTag_96 zw2496 (Or.inl rfl) rfl rfl (kk := ?_)
                have W39 := Ws31.sF (q := 0) (f := 29) (x := (y31_3 + 2)) r38
                refine z_aload_n hC (pc := 99) 0 dX14_readTag_99 rfl rfl ?_
                refine z_bipush hC (pc := 100) (v := Int32.ofInt 21) dX14_readTag_100 (by decide) ?_
                refine z_iconst hC (pc := 102) (v := Int32.ofInt 0) dX14_readTag_102 (by decide) ?_
                refine z_iload_n hC (pc := 103) 1 dX14_readTag_103 rfl rfl ?_
                obtain ⟨p40, h⟩ := h
                refine y_callVv hC (pc := 104) (As := [iv 21, iv 0, iv y31_2]) (kX14_note_t l G κ (sF s31 0 29 (y31_3 + 2)) 21 0 y31_2 gg W39 (r_lit rfl) (r_lit rfl) hy31_2 p40) dmX14_note zf14 rOb_0 dX14_readTag_104 zw3111 rfl rfl (Nat.le_of_ble_eq_true rfl) (Nat.le_of_ble_eq_true rfl) (by omega) (by omega) (Nat.le_of_ble_eq_true rfl) (kk := fun s104 Ws104 qs104 => ?_)
                have h := h s104 Ws104 (rNMp.keep qs104.1 rfl rfl rfl rfl rfl) (TPRp.keep qs104.1 rfl rfl rfl) (PNp.keep qs104.1 rfl rfl rfl rfl rfl) (CCp.keep qs104.1 rfl rfl rfl rfl rfl rfl rfl) (qs104.1.R rfl) (qs104.1.F rfl) (qs104.1.F rfl) (qs104.1.F rfl) (qs104.1.F rfl) (qs104.1.F rfl) (qs104.1.F rfl) (qs104.1.F rfl) (qs104.1.F rfl) (qs104.1.F rfl) (qs104.1.F rfl) (fun i => qs104.1.A (f := 26) (by decide) rfl) (fun i => qs104.1.A (f := 40) (by decide) rfl) (qs104.1.FG g0 rfl) (qs104.1.FG g0 rfl) (qs104.1.FG g0 rfl) (qs104.1.FG g0 rfl) (qs104.1.FG g0 rfl) (fz_keep qs104.1 rfl) qs104.2
                exact y_retv hR dX14_readTag_107 Ws104 (Nat.le_of_ble_eq_true rfl) (Nat.le_of_ble_eq_true rfl) ⟨(rKeep.tr (rKeep.tr (rKeep.tr rKeep.rf kJ rfl rfl rfl rfl rfl) (rKeep.sF0 (f := 29)) rfl rfl rfl rfl rfl) qs104.1 rfl rfl rfl rfl rfl), h⟩
              · have h := hF c
                refine z_aload_n hC (pc := 83) 0 dX14_readTag_83 rfl rfl ?_
                refine z_iconst hC (pc := 84) (v := Int32.ofInt 1) dX14_readTag_84 (by decide) ?_
                refine z_aload_n hC (pc := 85) 0 dX14_readTag_85 rfl rfl ?_
                refine y_get hC (pc := 86) zf14 rOb_0 30 (v := iv (rF s31 0 30)) dX14_readTag_86 zw2497 (rv_i (Or.inl rfl) rfl) (kk := ?_)
                have h := h (Ws31.f _ _)
                obtain ⟨p41, h⟩ := h
                refine y_callVv hC (pc := 89) (As := [iv 1, iv (rF s31 0 30)]) (kX14_bad l G κ s31 1 (rF s31 0 30) Ws31 (r_lit rfl) (Ws31.f _ _) p41) dmX14_bad zf14 rOb_0 dX14_readTag_89 zw3000 rfl rfl (Nat.le_of_ble_eq_true rfl) (Nat.le_of_ble_eq_true rfl) (by omega) (by omega) (Nat.le_of_ble_eq_true rfl) (kk := fun s89 Ws89 qs89 => ?_)
                have h := h s89 Ws89 (rNMp.keep qs89.1 rfl rfl rfl rfl rfl) (TPRp.keep qs89.1 rfl rfl rfl) (WNp.keep qs89.1 rfl rfl rfl rfl rfl) (PNp.keep qs89.1 rfl rfl rfl rfl rfl) (CCp.keep qs89.1 rfl rfl rfl rfl rfl rfl rfl) (qs89.1.R rfl) (qs89.1.F rfl) (qs89.1.F rfl) (qs89.1.F rfl) (qs89.1.F rfl) (qs89.1.F rfl) (qs89.1.F rfl) (qs89.1.F rfl) (qs89.1.F rfl) (qs89.1.F rfl) (qs89.1.F rfl) (fun i => qs89.1.A (f := 26) (by decide) rfl) (fun i => qs89.1.A (f := 34) (by decide) rfl) (fun i => qs89.1.A (f := 35) (by decide) rfl) (fun i => qs89.1.A (f := 37) (by decide) rfl) (fun i => qs89.1.A (f := 40) (by decide) rfl) (qs89.1.FG g0 rfl) (qs89.1.FG g0 rfl) (qs89.1.FG g0 rfl) (qs89.1.FG g0 rfl) (qs89.1.FG g0 rfl) (RG.keep (c0 := 0) qs89.1 rfl rfl rfl rfl rfl rfl rfl rfl rfl rfl rfl rfl rfl rfl rfl rfl rfl rfl) qs89.2
                refine z_aload_n hC (pc := 92) 0 dX14_readTag_92 rfl rfl ?_
                refine z_iload_n hC (pc := 93) 2 dX14_readTag_93 rfl rfl ?_
                refine z_iconst hC (pc := 94) (v := Int32.ofInt 2) dX14_readTag_94 (by decide) ?_
                refine y_iadd hC (pc := 95) (v := (y31_3 + 2)) dX14_readTag_95 rfl ?_
                obtain ⟨r42, h⟩ := h
                refine y_putI hC (pc := 96) zf14 rOb_0 29 (x := (y31_3 + 2)) dX14_readTag_96 zw2496 (Or.inl rfl) rfl rfl (kk := ?_)
                have W43 := Ws89.sF (q := 0) (f := 29) (x := (y31_3 + 2)) r42
                refine z_aload_n hC (pc := 99) 0 dX14_readTag_99 rfl rfl ?_
                refine z_bipush hC (pc := 100) (v := Int32.ofInt 21) dX14_readTag_100 (by decide) ?_
                refine z_iconst hC (pc := 102) (v := Int32.ofInt 0) dX14_readTag_102 (by decide) ?_
                refine z_iload_n hC (pc := 103) 1 dX14_readTag_103 rfl rfl ?_
                obtain ⟨p44, h⟩ := h
                refine y_callVv hC (pc := 104) (As := [iv 21, iv 0, iv y31_2]) (kX14_note_t l G κ (sF s89 0 29 (y31_3 + 2)) 21 0 y31_2 gg W43 (r_lit rfl) (r_lit rfl) hy31_2 p44) dmX14_note zf14 rOb_0 dX14_readTag_104 zw3111 rfl rfl (Nat.le_of_ble_eq_true rfl) (Nat.le_of_ble_eq_true rfl) (by omega) (by omega) (Nat.le_of_ble_eq_true rfl) (kk := fun s104 Ws104 qs104 => ?_)
                have h := h s104 Ws104 (rNMp.keep qs104.1 rfl rfl rfl rfl rfl) (TPRp.keep qs104.1 rfl rfl rfl) (PNp.keep qs104.1 rfl rfl rfl rfl rfl) (CCp.keep qs104.1 rfl rfl rfl rfl rfl rfl rfl) (qs104.1.R rfl) (qs104.1.F rfl) (qs104.1.F rfl) (qs104.1.F rfl) (qs104.1.F rfl) (qs104.1.F rfl) (qs104.1.F rfl) (qs104.1.F rfl) (qs104.1.F rfl) (qs104.1.F rfl) (qs104.1.F rfl) (fun i => qs104.1.A (f := 26) (by decide) rfl) (fun i => qs104.1.A (f := 40) (by decide) rfl) (qs104.1.FG g0 rfl) (qs104.1.FG g0 rfl) (qs104.1.FG g0 rfl) (qs104.1.FG g0 rfl) (qs104.1.FG g0 rfl) (fz_keep qs104.1 rfl) qs104.2
                exact y_retv hR dX14_readTag_107 Ws104 (Nat.le_of_ble_eq_true rfl) (Nat.le_of_ble_eq_true rfl) ⟨(rKeep.tr (rKeep.tr (rKeep.tr (rKeep.tr rKeep.rf kJ rfl rfl rfl rfl rfl) qs89.1 rfl rfl rfl rfl rfl) (rKeep.sF0 (f := 29)) rfl rfl rfl rfl rfl) qs104.1 rfl rfl rfl rfl rfl), h⟩
            · have h := hF c
              refine y_iinc hC (pc := 67) (v := (y31_3 + 1)) (lv' := [(3, iv (y31_3 + 1)), (0, .ref (κ 0)), (2, iv y31_2)]) 2 dX14_readTag_67 rfl rfl (by decide) rfl ?_
              refine z_goto hC (pc := 70) 31 dX14_readTag_70 (by decide) ?_
              refine z_lvs [1, 2, 0] rfl ?_
              obtain ⟨hI, hm⟩ := h
              exact ih31 s31 y31_2 (y31_3 + 1) Ws31 hy31_2 r28 (rKeep.tr rKeep.rf kJ rfl rfl rfl rfl rfl) hI (by omega)
    refine z_lvs [2, 1, 0] rfl ?_
    obtain ⟨r45, h⟩ := h
    exact j31 _ (sF σ 0 29 ((rF σ 0 29) + 1)) v1 (((rF σ 0 29) + 1) + 1) W12 hv1 r45 (rKeep.tr rKeep.rf (rKeep.sF0 (f := 29)) rfl rfl rfl rfl rfl) h (Nat.le_refl _)
theorem kX14_readTag (l : Launch) (G : zG) (κ : Nat → Nat) (n : Nat) (ih : Q_rd l G κ n) (σ : rS) (x1 : Int) (gg : Nat) (g : Nat → Int → Int) (L : List Int) (hwf : rWF σ) (hx1 : rng x1) (hp : pre_X14_readTag σ x1 gg g L) (hr : rk_X14_readTag σ x1 gg g L ≤ n + 1) : rMv l G κ yX14_readTag cX14_readTag 4 (n + 1 + 100) ((n + 1) * 40 + 3600) [.ref (κ 0), iv x1] σ (fun s => rKeep 0x6c0a3001c00 0x4100001280 0x13c00000000 0x3ee0000d7f 0 σ s ∧ post_X14_readTag σ x1 gg g L s) := wX14_readTag l G κ n ih σ x1 gg g L hwf hx1 (post_X14_readTag σ x1 gg g L) (vX14_readTag n σ x1 gg g L hwf hx1 hp hr) (vX14_readTag_31 n σ x1 gg g L hwf hx1 hp hr) (vX14_readTag_31m n σ x1 gg g L hwf hx1 hp hr)
theorem wX14_readAt (l : Launch) (G : zG) (κ : Nat → Nat) (n : Nat) (ih : Q_rd l G κ n) (σ : rS) (x1 : Int) (x2 : Int) (gg : Nat) (g : Nat → Int → Int) (L : List Int) (hwf : rWF σ) (hx1 : rng x1) (hx2 : rng x2) (Q : rS → Prop) (h : VC_X14_readAt n σ x1 x2 gg g L Q) (h_388 : VC_X14_readAt_388 n σ x1 x2 gg g L Q) (h_349 : VC_X14_readAt_349 n σ x1 x2 gg g L Q) (h_227 : VC_X14_readAt_227 n σ x1 x2 gg g L Q) (h_191 : VC_X14_readAt_191 n σ x1 x2 gg g L Q) : rMv l G κ yX14_readAt cX14_readAt 6 (n + 1 + 100) ((n + 1) * 40 + 3600) [.ref (κ 0), iv x1, iv x2] σ (fun s => rKeep 0x2c0a0001c00 0x4100001280 0x13c00000000 0x3ee0000d7f 0 σ s ∧ Q s) := by
  refine zMv.intro (by decide +kernel) (Nat.le_of_ble_eq_true rfl) (fun X hC hR => ?_)
  obtain ⟨g0, h⟩ := h
  refine z_aload_n hC (pc := 0) 0 dX14_readAt_0 rfl rfl ?_
  obtain ⟨p10, h⟩ := h
  refine y_callVi hC (pc := 1) (As := []) (kX14_place l G κ σ  hwf  p10) dmX14_place zf14 rOb_0 dX14_readAt_1 zw3103 rfl rfl (Nat.le_of_ble_eq_true rfl) (Nat.le_of_ble_eq_true rfl) (by omega) (by omega) (Nat.le_of_ble_eq_true rfl) (kk := fun v1 s1 hv1 Ws1 qs1 => ?_)
  obtain ⟨es1, qs1⟩ := qs1
  have es1 := es1.symm
  subst es1
  have h := h v1 hv1 qs1
  refine z_istore_n hC (pc := 4) (lv' := [(3, iv v1), (0, .ref (κ 0)), (1, iv x1), (2, iv x2)]) dX14_readAt_4 rfl (by decide) rfl ?_
  refine z_aload_n hC (pc := 5) 1 dX14_readAt_5 rfl rfl ?_
  refine z_dup hC (pc := 6) dX14_readAt_6 rfl ?_
  refine y_get hC (pc := 7) zf14 rOb_0 29 (v := iv (rF σ 0 29)) dX14_readAt_7 zw2496 (rv_i (Or.inl rfl) rfl) (kk := ?_)
  have h := h (hwf.f _ _)
  refine z_iconst hC (pc := 10) (v := Int32.ofInt 1) dX14_readAt_10 (by decide) ?_
  refine y_iadd hC (pc := 11) (v := ((rF σ 0 29) + 1)) dX14_readAt_11 rfl ?_
  obtain ⟨r11, h⟩ := h
  refine y_putI hC (pc := 12) zf14 rOb_0 29 (x := ((rF σ 0 29) + 1)) dX14_readAt_12 zw2496 (Or.inl rfl) rfl rfl (kk := ?_)
  have W12 := hwf.sF (q := 0) (f := 29) (x := ((rF σ 0 29) + 1)) r11
  refine z_aload_n hC (pc := 15) 1 dX14_readAt_15 rfl rfl ?_
  obtain ⟨p13, h⟩ := h
  refine y_callVv hC (pc := 16) (As := []) (kX14_blanks l G κ (sF σ 0 29 ((rF σ 0 29) + 1))  W12  p13) dmX14_blanks zf14 rOb_0 dX14_readAt_16 zw3119 rfl rfl (Nat.le_of_ble_eq_true rfl) (Nat.le_of_ble_eq_true rfl) (by omega) (by omega) (Nat.le_of_ble_eq_true rfl) (kk := fun s16 Ws16 qs16 => ?_)
  have h := h s16 Ws16 (rNMp.keep qs16.1 rfl rfl rfl rfl rfl) (TPRp.keep qs16.1 rfl rfl rfl) (WNp.keep qs16.1 rfl rfl rfl rfl rfl) (PNp.keep qs16.1 rfl rfl rfl rfl rfl) (CCp.keep qs16.1 rfl rfl rfl rfl rfl rfl rfl) (qs16.1.R rfl) (qs16.1.F rfl) (qs16.1.F rfl) (qs16.1.F rfl) (qs16.1.F rfl) (qs16.1.F rfl) (qs16.1.F rfl) (qs16.1.F rfl) (qs16.1.F rfl) (qs16.1.F rfl) (qs16.1.F rfl) (qs16.1.F rfl) (fun i => qs16.1.A (f := 26) (by decide) rfl) (fun i => qs16.1.A (f := 34) (by decide) rfl) (fun i => qs16.1.A (f := 35) (by decide) rfl) (fun i => qs16.1.A (f := 37) (by decide) rfl) (fun i => qs16.1.A (f := 40) (by decide) rfl) (qs16.1.FG g0 rfl) (qs16.1.FG g0 rfl) (qs16.1.FG g0 rfl) (qs16.1.FG g0 rfl) (qs16.1.FG g0 rfl) (fun i => qs16.1.AG (f := 31) g0 (by decide) rfl) (fun i => qs16.1.AG (f := 33) g0 (by decide) rfl) (fun i => qs16.1.AG (f := 34) g0 (by decide) rfl) (fun i => qs16.1.AG (f := 35) g0 (by decide) rfl) (fz_keep qs16.1 rfl) (RG.keep (c0 := 0) qs16.1 rfl rfl rfl rfl rfl rfl rfl rfl rfl rfl rfl rfl rfl rfl rfl rfl rfl rfl) qs16.2
  refine z_aload_n hC (pc := 19) 1 dX14_readAt_19 rfl rfl ?_
  refine z_ldcSw hC (pc := 20) dX14_readAt_20 zS_51 ?_
  obtain ⟨p14, h⟩ := h
  refine y_callVi hC (pc := 23) (As := [.ref (G.2.2 103)]) (kX14_isWord_t l G κ s16 (G.2.2 103) 3 Ws16 (rSt_51 G) p14) dmX14_isWord zf14 rOb_0 dX14_readAt_23 zw3128 rfl rfl (Nat.le_of_ble_eq_true rfl) (Nat.le_of_ble_eq_true rfl) (by omega) (by omega) (Nat.le_of_ble_eq_true rfl) (kk := fun v23 s23 hv23 Ws23 qs23 => ?_)
  obtain ⟨es23, qs23⟩ := qs23
  have es23 := es23.symm
  subst es23
  have h := h v23 hv23 qs23
  obtain ⟨hT, hF⟩ := h
  refine y_if_eq hC (pc := 26) 103 hv23 dX14_readAt_26 (by decide) (fun c => ?_) (fun c => ?_)
  · have h := hT c
    refine z_aload_n hC (pc := 103) 1 dX14_readAt_103 rfl rfl ?_
    refine z_ldcSw hC (pc := 104) dX14_readAt_104 zS_50 ?_
    obtain ⟨p15, h⟩ := h
    refine y_callVi hC (pc := 107) (As := [.ref (G.2.2 101)]) (kX14_isWord_t l G κ s16 (G.2.2 101) 5 Ws16 (rSt_50 G) p15) dmX14_isWord zf14 rOb_0 dX14_readAt_107 zw3128 rfl rfl (Nat.le_of_ble_eq_true rfl) (Nat.le_of_ble_eq_true rfl) (by omega) (by omega) (Nat.le_of_ble_eq_true rfl) (kk := fun v107 s107 hv107 Ws107 qs107 => ?_)
    obtain ⟨es107, qs107⟩ := qs107
    have es107 := es107.symm
    subst es107
    have h := h v107 hv107 qs107
    obtain ⟨hT, hF⟩ := h
    refine y_if_eq hC (pc := 110) 307 hv107 dX14_readAt_110 (by decide) (fun c => ?_) (fun c => ?_)
    · have h := hT c
      refine z_aload_n hC (pc := 307) 1 dX14_readAt_307 rfl rfl ?_
      refine y_get hC (pc := 308) zf14 rOb_0 32 (v := iv (rF s16 0 32)) dX14_readAt_308 zw2499 (rv_i (Or.inl rfl) rfl) (kk := ?_)
      have h := h (Ws16.f _ _)
      have j349 : ∀ (s349 : rS) (y349_3 : Int), rWF s349 → rng y349_3 → rKeep 0x2c0a0001c00 0x4100001280 0x13c00000000 0x3ee0000d7f 0 σ s349 → inv_X14_readAt_349 σ x1 x2 gg g L s349 y349_3 → zS X G 6 (rW G κ s349) [(0, .ref (κ 0)), (1, iv x1), (3, iv y349_3)] 0 0 349 [] := by
        intro s349 y349_3 Ws349 hy349_3 kJ hI
        have h := h_349  s349 y349_3 Ws349 hy349_3 (TPRp.keep kJ rfl rfl rfl) (CCp.keep kJ rfl rfl rfl rfl rfl rfl rfl) (kJ.R rfl) (kJ.F rfl) (kJ.F rfl) (kJ.F rfl) (kJ.F rfl) (kJ.F rfl) (kJ.F rfl) (fun i => kJ.A (f := 26) (by decide) rfl) hI
        refine z_aload_n hC (pc := 349) 0 dX14_readAt_349 rfl rfl ?_
        obtain ⟨p16, h⟩ := h
        refine y_callVi hC (pc := 350) (As := []) (kX14_tagName l G κ s349  Ws349  p16) dmX14_tagName zf14 rOb_0 dX14_readAt_350 zw3166 rfl rfl (Nat.le_of_ble_eq_true rfl) (Nat.le_of_ble_eq_true rfl) (by omega) (by omega) (Nat.le_of_ble_eq_true rfl) (kk := fun v350 s350 hv350 Ws350 qs350 => ?_)
        have h := h v350 s350 hv350 Ws350 (TPRp.keep qs350.1 rfl rfl rfl) (WNp.keep qs350.1 rfl rfl rfl rfl rfl) (PNp.keep qs350.1 rfl rfl rfl rfl rfl) (CCp.keep qs350.1 rfl rfl rfl rfl rfl rfl rfl) (qs350.1.R rfl) (qs350.1.F rfl) (qs350.1.F rfl) (qs350.1.F rfl) (qs350.1.F rfl) (qs350.1.F rfl) (qs350.1.F rfl) (qs350.1.F rfl) (qs350.1.F rfl) (qs350.1.F rfl) (fun i => qs350.1.A (f := 26) (by decide) rfl) (fun i => qs350.1.A (f := 34) (by decide) rfl) (fun i => qs350.1.A (f := 35) (by decide) rfl) (fun i => qs350.1.A (f := 37) (by decide) rfl) (fun i => qs350.1.A (f := 40) (by decide) rfl) (qs350.1.FG g0 rfl) (qs350.1.FG g0 rfl) (qs350.1.FG g0 rfl) (fun i => qs350.1.AG (f := 31) g0 (by decide) rfl) (fun i => qs350.1.AG (f := 33) g0 (by decide) rfl) (fun i => qs350.1.AG (f := 34) g0 (by decide) rfl) (fun i => qs350.1.AG (f := 35) g0 (by decide) rfl) (RG.keep (c0 := 0) qs350.1 rfl rfl rfl rfl rfl rfl rfl rfl rfl rfl rfl rfl rfl rfl rfl rfl rfl rfl) qs350.2
        refine z_istore hC (pc := 353) (lv' := [(4, iv v350), (0, .ref (κ 0)), (1, iv x1), (3, iv y349_3)]) dX14_readAt_353 (by decide) rfl ?_
        refine z_aload_n hC (pc := 355) 1 dX14_readAt_355 rfl rfl ?_
        refine y_get hC (pc := 356) zf14 rOb_0 10 (v := iv (rF s350 0 10)) dX14_readAt_356 zw2478 (rv_i (Or.inl rfl) rfl) (kk := ?_)
        have h := h (Ws350.f _ _)
        obtain ⟨hT, hF⟩ := h
        refine y_if_eq hC (pc := 359) 363 (Ws350.f _ _) dX14_readAt_359 (by decide) (fun c => ?_) (fun c => ?_)
        · have h := hT c
          refine z_aload_n hC (pc := 363) 1 dX14_readAt_363 rfl rfl ?_
          refine y_get hC (pc := 364) zf14 rOb_0 7 (v := .ref (κ (rR σ 7))) dX14_readAt_364 zw2475 (rv_g rfl ((qs350.1.R rfl).trans (kJ.R rfl)) g0) (kk := ?_)
          refine z_aload_n hC (pc := 367) 1 dX14_readAt_367 rfl rfl ?_
          refine y_get hC (pc := 368) zf14 rOb_0 32 (v := iv (rF s350 0 32)) dX14_readAt_368 zw2499 (rv_i (Or.inl rfl) rfl) (kk := ?_)
          have h := h (Ws350.f _ _)
          refine z_iload hC (pc := 371) 0 dX14_readAt_371 rfl ?_
          obtain ⟨p17, h⟩ := h
          refine y_callVi hC (pc := 373) (As := [iv (rF s350 0 32), iv v350]) (kX13_partOf l G κ s350 (rR σ 7) (rF s350 0 32) v350 Ws350 g0 (Ws350.f _ _) hv350 p17) dmX13_partOf zf13 (rOb_k g0) dX14_readAt_373 zw3174 rfl rfl (Nat.le_of_ble_eq_true rfl) (Nat.le_of_ble_eq_true rfl) (by omega) (by omega) (Nat.le_of_ble_eq_true rfl) (kk := fun v373 s373 hv373 Ws373 qs373 => ?_)
          obtain ⟨es373, qs373⟩ := qs373
          have es373 := es373.symm
          subst es373
          have h := h v373 hv373 qs373
          have j388 : ∀ (s388 : rS) (y388_3 : Int) (y388_4 : Int), rWF s388 → rng y388_3 → rng y388_4 → rKeep 0x2c0a0001c00 0x4100001280 0x13c00000000 0x3ee0000d7f 0 σ s388 → inv_X14_readAt_388 σ x1 x2 gg g L s388 y388_3 y388_4 → zS X G 6 (rW G κ s388) [(0, .ref (κ 0)), (1, iv x1), (3, iv y388_3), (4, iv y388_4)] 0 0 388 [] := by
            intro s388 y388_3 y388_4 Ws388 hy388_3 hy388_4 kJ hI
            have h := h_388  s388 y388_3 y388_4 Ws388 hy388_3 hy388_4 (TPRp.keep kJ rfl rfl rfl) (CCp.keep kJ rfl rfl rfl rfl rfl rfl rfl) (kJ.R rfl) (kJ.F rfl) (kJ.F rfl) (kJ.F rfl) (kJ.F rfl) (kJ.F rfl) (kJ.F rfl) (fun i => kJ.A (f := 26) (by decide) rfl) hI
            refine z_aload_n hC (pc := 388) 0 dX14_readAt_388 rfl rfl ?_
            refine z_bipush hC (pc := 389) (v := Int32.ofInt 6) dX14_readAt_389 (by decide) ?_
            refine z_iload hC (pc := 391) 3 dX14_readAt_391 rfl ?_
            refine z_iconst hC (pc := 393) (v := Int32.ofInt 0) dX14_readAt_393 (by decide) ?_
            refine z_iload_n hC (pc := 394) 1 dX14_readAt_394 rfl rfl ?_
            obtain ⟨p18, h⟩ := h
            refine y_callVi hC (pc := 395) (As := [iv 6, iv y388_4, iv 0, iv x1]) (kX14_node_t l G κ s388 6 y388_4 0 x1 gg Ws388 (r_lit rfl) hy388_4 (r_lit rfl) hx1 p18) dmX14_node zf14 rOb_0 dX14_readAt_395 zw3170 rfl rfl (Nat.le_of_ble_eq_true rfl) (Nat.le_of_ble_eq_true rfl) (by omega) (by omega) (Nat.le_of_ble_eq_true rfl) (kk := fun v395 s395 hv395 Ws395 qs395 => ?_)
            have h := h v395 s395 hv395 Ws395 (rNMp.keep qs395.1 rfl rfl rfl rfl rfl) (TPRp.keep qs395.1 rfl rfl rfl) (WNp.keep qs395.1 rfl rfl rfl rfl rfl) (CCp.keep qs395.1 rfl rfl rfl rfl rfl rfl rfl) (qs395.1.R rfl) (qs395.1.F rfl) (qs395.1.F rfl) (qs395.1.F rfl) (qs395.1.F rfl) (qs395.1.F rfl) (qs395.1.F rfl) (qs395.1.F rfl) (qs395.1.F rfl) (qs395.1.F rfl) (qs395.1.F rfl) (qs395.1.F rfl) (qs395.1.F rfl) (fun i => qs395.1.A (f := 26) (by decide) rfl) (fun i => qs395.1.A (f := 34) (by decide) rfl) (fun i => qs395.1.A (f := 35) (by decide) rfl) (fun i => qs395.1.A (f := 37) (by decide) rfl) (fun i => qs395.1.A (f := 40) (by decide) rfl) (qs395.1.FG g0 rfl) (qs395.1.FG g0 rfl) (qs395.1.FG g0 rfl) (qs395.1.FG g0 rfl) (fun i => qs395.1.AG (f := 31) g0 (by decide) rfl) (fun i => qs395.1.AG (f := 33) g0 (by decide) rfl) (fun i => qs395.1.AG (f := 34) g0 (by decide) rfl) (fun i => qs395.1.AG (f := 35) g0 (by decide) rfl) (fz_keep qs395.1 rfl) qs395.2
            refine z_istore hC (pc := 398) (lv' := [(5, iv v395), (0, .ref (κ 0)), (1, iv x1), (3, iv y388_3), (4, iv y388_4)]) dX14_readAt_398 (by decide) rfl ?_
            refine z_aload_n hC (pc := 400) 1 dX14_readAt_400 rfl rfl ?_
            refine y_get hC (pc := 401) zf14 rOb_0 7 (v := .ref (κ (rR σ 7))) dX14_readAt_401 zw2475 (rv_g rfl ((qs395.1.R rfl).trans (kJ.R rfl)) g0) (kk := ?_)
            refine y_getN hC (pc := 404) zf13 (rOb_k g0) 3 (v := .ref (κ (1000 * ((rR σ 7) + 1) + 3))) dX14_readAt_404 zw2316 (rv_c rfl) (kk := ?_)
            refine z_iload hC (pc := 407) 0 dX14_readAt_407 rfl ?_
            refine z_aload_n hC (pc := 409) 1 dX14_readAt_409 rfl rfl ?_
            refine y_get hC (pc := 410) zf14 rOb_0 32 (v := iv (rF s395 0 32)) dX14_readAt_410 zw2499 (rv_i (Or.inl rfl) rfl) (kk := ?_)
            have h := h (Ws395.f _ _)
            obtain ⟨b19, h⟩ := h
            refine y_iast hC (pc := 413) (rAr_k g0 rfl rfl) dX14_readAt_413 b19 (v := (rF s395 0 32)) (kk := ?_)
            have W20 := Ws395.sA (p := (1000 * ((rR σ 7) + 1) + 3)) (i := v395) (x := (rF s395 0 32)) (Ws395.f _ _)
            refine z_aload_n hC (pc := 414) 1 dX14_readAt_414 rfl rfl ?_
            refine y_get hC (pc := 415) zf14 rOb_0 7 (v := .ref (κ (rR σ 7))) dX14_readAt_415 zw2475 (rv_g rfl ((qs395.1.R rfl).trans (kJ.R rfl)) g0) (kk := ?_)
            refine y_getN hC (pc := 418) zf13 (rOb_k g0) 29 (v := .ref (κ (1000 * ((rR σ 7) + 1) + 29))) dX14_readAt_418 zw2366 (rv_c rfl) (kk := ?_)
            refine z_aload_n hC (pc := 421) 1 dX14_readAt_421 rfl rfl ?_
            refine y_get hC (pc := 422) zf14 rOb_0 7 (v := .ref (κ (rR σ 7))) dX14_readAt_422 zw2475 (rv_g rfl ((qs395.1.R rfl).trans (kJ.R rfl)) g0) (kk := ?_)
            refine y_getN hC (pc := 425) zf13 (rOb_k g0) 32 (v := iv (rF s395 (rR σ 7) 32)) dX14_readAt_425 zw2372 (rv_i (Or.inl rfl) rfl) (kk := ?_)
            have h := h (Ws395.f _ _)
            refine z_aload_n hC (pc := 428) 1 dX14_readAt_428 rfl rfl ?_
            refine y_get hC (pc := 429) zf14 rOb_0 32 (v := iv (rF s395 0 32)) dX14_readAt_429 zw2499 (rv_i (Or.inl rfl) rfl) (kk := ?_)
            obtain ⟨b21, h⟩ := h
            refine y_iast hC (pc := 432) (rAr_k g0 rfl rfl) dX14_readAt_432 b21 (v := (rF s395 0 32)) (kk := ?_)
            have W22 := W20.sA (p := (1000 * ((rR σ 7) + 1) + 29)) (i := (rF s395 (rR σ 7) 32)) (x := (rF s395 0 32)) (Ws395.f _ _)
            refine z_aload_n hC (pc := 433) 1 dX14_readAt_433 rfl rfl ?_
            refine y_get hC (pc := 434) zf14 rOb_0 7 (v := .ref (κ (rR σ 7))) dX14_readAt_434 zw2475 (rv_g rfl ((qs395.1.R rfl).trans (kJ.R rfl)) g0) (kk := ?_)
            refine y_getN hC (pc := 437) zf13 (rOb_k g0) 30 (v := .ref (κ (1000 * ((rR σ 7) + 1) + 30))) dX14_readAt_437 zw2368 (rv_c rfl) (kk := ?_)
            refine z_aload_n hC (pc := 440) 1 dX14_readAt_440 rfl rfl ?_
            refine y_get hC (pc := 441) zf14 rOb_0 7 (v := .ref (κ (rR σ 7))) dX14_readAt_441 zw2475 (rv_g rfl ((qs395.1.R rfl).trans (kJ.R rfl)) g0) (kk := ?_)
            refine y_getN hC (pc := 444) zf13 (rOb_k g0) 32 (v := iv (rF s395 (rR σ 7) 32)) dX14_readAt_444 zw2372 (rv_i (Or.inl rfl) rfl) (kk := ?_)
            refine z_iload hC (pc := 447) 4 dX14_readAt_447 rfl ?_
            obtain ⟨b23, h⟩ := h
            refine y_iast hC (pc := 449) (rAr_k g0 rfl rfl) dX14_readAt_449 b23 (v := y388_4) (kk := ?_)
            have W24 := W22.sA (p := (1000 * ((rR σ 7) + 1) + 30)) (i := (rF s395 (rR σ 7) 32)) (x := y388_4) hy388_4
            refine z_aload_n hC (pc := 450) 1 dX14_readAt_450 rfl rfl ?_
            refine y_get hC (pc := 451) zf14 rOb_0 7 (v := .ref (κ (rR σ 7))) dX14_readAt_451 zw2475 (rv_g rfl ((qs395.1.R rfl).trans (kJ.R rfl)) g0) (kk := ?_)
            refine y_getN hC (pc := 454) zf13 (rOb_k g0) 31 (v := .ref (κ (1000 * ((rR σ 7) + 1) + 31))) dX14_readAt_454 zw2370 (rv_c rfl) (kk := ?_)
            refine z_aload_n hC (pc := 457) 1 dX14_readAt_457 rfl rfl ?_
            refine y_get hC (pc := 458) zf14 rOb_0 7 (v := .ref (κ (rR σ 7))) dX14_readAt_458 zw2475 (rv_g rfl ((qs395.1.R rfl).trans (kJ.R rfl)) g0) (kk := ?_)
            refine y_getN hC (pc := 461) zf13 (rOb_k g0) 32 (v := iv (rF s395 (rR σ 7) 32)) dX14_readAt_461 zw2372 (rv_i (Or.inl rfl) rfl) (kk := ?_)
            refine z_iload hC (pc := 464) 0 dX14_readAt_464 rfl ?_
            obtain ⟨b25, h⟩ := h
            refine y_iast hC (pc := 466) (rAr_k g0 rfl rfl) dX14_readAt_466 b25 (v := v395) (kk := ?_)
            have W26 := W24.sA (p := (1000 * ((rR σ 7) + 1) + 31)) (i := (rF s395 (rR σ 7) 32)) (x := v395) hv395
            refine z_aload_n hC (pc := 467) 1 dX14_readAt_467 rfl rfl ?_
            refine y_get hC (pc := 468) zf14 rOb_0 7 (v := .ref (κ (rR σ 7))) dX14_readAt_468 zw2475 (rv_g rfl ((qs395.1.R rfl).trans (kJ.R rfl)) g0) (kk := ?_)
            refine z_dup hC (pc := 471) dX14_readAt_471 rfl ?_
            refine y_getN hC (pc := 472) zf13 (rOb_k g0) 32 (v := iv (rF s395 (rR σ 7) 32)) dX14_readAt_472 zw2372 (rv_i (Or.inl rfl) rfl) (kk := ?_)
            refine z_iconst hC (pc := 475) (v := Int32.ofInt 1) dX14_readAt_475 (by decide) ?_
            refine y_iadd hC (pc := 476) (v := ((rF s395 (rR σ 7) 32) + 1)) dX14_readAt_476 rfl ?_
            obtain ⟨r27, h⟩ := h
            refine y_putIN hC (pc := 477) zf13 (rOb_k g0) 32 (x := ((rF s395 (rR σ 7) 32) + 1)) dX14_readAt_477 zw2372 (Or.inl rfl) rfl rfl (kk := ?_)
            have W28 := W26.sF (q := (rR σ 7)) (f := 32) (x := ((rF s395 (rR σ 7) 32) + 1)) r27
            refine z_aload_n hC (pc := 480) 1 dX14_readAt_480 rfl rfl ?_
            obtain ⟨p29, h⟩ := h
            refine y_callVv hC (pc := 481) (As := []) (kX14_blanks l G κ (sF (sA (sA (sA (sT s395 (rR σ 7) 3 v395 (rF s395 0 32)) (1000 * ((rR σ 7) + 1) + 29) (rF s395 (rR σ 7) 32) (rF s395 0 32)) (1000 * ((rR σ 7) + 1) + 30) (rF s395 (rR σ 7) 32) y388_4) (1000 * ((rR σ 7) + 1) + 31) (rF s395 (rR σ 7) 32) v395) (rR σ 7) 32 ((rF s395 (rR σ 7) 32) + 1))  W28  p29) dmX14_blanks zf14 rOb_0 dX14_readAt_481 zw3119 rfl rfl (Nat.le_of_ble_eq_true rfl) (Nat.le_of_ble_eq_true rfl) (by omega) (by omega) (Nat.le_of_ble_eq_true rfl) (kk := fun s481 Ws481 qs481 => ?_)
            have h := h s481 Ws481 (rNMp.keep qs481.1 rfl rfl rfl rfl rfl) (TPRp.keep qs481.1 rfl rfl rfl) (WNp.keep qs481.1 rfl rfl rfl rfl rfl) (PNp.keep qs481.1 rfl rfl rfl rfl rfl) (CCp.keep qs481.1 rfl rfl rfl rfl rfl rfl rfl) (qs481.1.R rfl) (qs481.1.F rfl) (qs481.1.F rfl) (qs481.1.F rfl) (qs481.1.F rfl) (qs481.1.F rfl) (qs481.1.F rfl) (qs481.1.F rfl) (qs481.1.F rfl) (qs481.1.F rfl) (qs481.1.F rfl) (qs481.1.F rfl) (fun i => qs481.1.A (f := 26) (by decide) rfl) (fun i => qs481.1.A (f := 34) (by decide) rfl) (fun i => qs481.1.A (f := 35) (by decide) rfl) (fun i => qs481.1.A (f := 37) (by decide) rfl) (fun i => qs481.1.A (f := 40) (by decide) rfl) (qs481.1.FG g0 rfl) (qs481.1.FG g0 rfl) (qs481.1.FG g0 rfl) (qs481.1.FG g0 rfl) (qs481.1.FG g0 rfl) (fun i => qs481.1.AG (f := 31) g0 (by decide) rfl) (fun i => qs481.1.AG (f := 33) g0 (by decide) rfl) (fun i => qs481.1.AG (f := 34) g0 (by decide) rfl) (fun i => qs481.1.AG (f := 35) g0 (by decide) rfl) (fz_keep qs481.1 rfl) (RG.keep (c0 := 0) qs481.1 rfl rfl rfl rfl rfl rfl rfl rfl rfl rfl rfl rfl rfl rfl rfl rfl rfl rfl) qs481.2
            refine z_aload_n hC (pc := 484) 1 dX14_readAt_484 rfl rfl ?_
            obtain ⟨p30, h⟩ := h
            refine y_callVi hC (pc := 485) (As := []) (kX14_here l G κ s481  Ws481  p30) dmX14_here zf14 rOb_0 dX14_readAt_485 zw3099 rfl rfl (Nat.le_of_ble_eq_true rfl) (Nat.le_of_ble_eq_true rfl) (by omega) (by omega) (Nat.le_of_ble_eq_true rfl) (kk := fun v485 s485 hv485 Ws485 qs485 => ?_)
            obtain ⟨es485, qs485⟩ := qs485
            have es485 := es485.symm
            subst es485
            have h := h v485 hv485 qs485
            refine z_bipush hC (pc := 488) (v := Int32.ofInt 40) dX14_readAt_488 (by decide) ?_
            obtain ⟨hT, hF⟩ := h
            refine y_icmp_ne hC (pc := 490) 546 hv485 (r_lit rfl) dX14_readAt_490 (by decide) (fun c => ?_) (fun c => ?_)
            · have h := hT c
              refine z_aload_n hC (pc := 546) 1 dX14_readAt_546 rfl rfl ?_
              refine z_aload_n hC (pc := 547) 1 dX14_readAt_547 rfl rfl ?_
              refine y_get hC (pc := 548) zf14 rOb_0 19 (v := iv (rF s481 0 19)) dX14_readAt_548 zw2486 (rv_i (Or.inl rfl) rfl) (kk := ?_)
              have h := h (Ws481.f _ _)
              obtain ⟨p31, h⟩ := h
              refine y_callVv hC (pc := 551) (As := [iv (rF s481 0 19)]) (kX14_need l G κ s481 (rF s481 0 19) Ws481 (Ws481.f _ _) p31) dmX14_need zf14 rOb_0 dX14_readAt_551 zw3136 rfl rfl (Nat.le_of_ble_eq_true rfl) (Nat.le_of_ble_eq_true rfl) (by omega) (by omega) (Nat.le_of_ble_eq_true rfl) (kk := fun s551 Ws551 qs551 => ?_)
              have h := h s551 Ws551 (rNMp.keep qs551.1 rfl rfl rfl rfl rfl) (TPRp.keep qs551.1 rfl rfl rfl) (WNp.keep qs551.1 rfl rfl rfl rfl rfl) (PNp.keep qs551.1 rfl rfl rfl rfl rfl) (CCp.keep qs551.1 rfl rfl rfl rfl rfl rfl rfl) (qs551.1.R rfl) (qs551.1.F rfl) (qs551.1.F rfl) (qs551.1.F rfl) (qs551.1.F rfl) (qs551.1.F rfl) (qs551.1.F rfl) (qs551.1.F rfl) (qs551.1.F rfl) (qs551.1.F rfl) (qs551.1.F rfl) (fun i => qs551.1.A (f := 26) (by decide) rfl) (fun i => qs551.1.A (f := 34) (by decide) rfl) (fun i => qs551.1.A (f := 35) (by decide) rfl) (fun i => qs551.1.A (f := 37) (by decide) rfl) (fun i => qs551.1.A (f := 40) (by decide) rfl) (qs551.1.FG g0 rfl) (qs551.1.FG g0 rfl) (qs551.1.FG g0 rfl) (qs551.1.FG g0 rfl) (qs551.1.FG g0 rfl) (fun i => qs551.1.AG (f := 31) g0 (by decide) rfl) (fun i => qs551.1.AG (f := 33) g0 (by decide) rfl) (fun i => qs551.1.AG (f := 34) g0 (by decide) rfl) (fun i => qs551.1.AG (f := 35) g0 (by decide) rfl) (RG.keep (c0 := 0) qs551.1 rfl rfl rfl rfl rfl rfl rfl rfl rfl rfl rfl rfl rfl rfl rfl rfl rfl rfl) qs551.2
              refine z_aload_n hC (pc := 554) 1 dX14_readAt_554 rfl rfl ?_
              refine y_get hC (pc := 555) zf14 rOb_0 10 (v := iv (rF s551 0 10)) dX14_readAt_555 zw2478 (rv_i (Or.inl rfl) rfl) (kk := ?_)
              have h := h (Ws551.f _ _)
              obtain ⟨hT, hF⟩ := h
              refine y_if_eq hC (pc := 558) 562 (Ws551.f _ _) dX14_readAt_558 (by decide) (fun c => ?_) (fun c => ?_)
              · have h := hT c
                refine z_aload_n hC (pc := 562) 1 dX14_readAt_562 rfl rfl ?_
                refine z_iload_n hC (pc := 563) 3 dX14_readAt_563 rfl rfl ?_
                obtain ⟨p32, h⟩ := h
                refine y_callVv hC (pc := 564) (As := [iv y388_3]) (kX14_deeper l G κ s551 y388_3 Ws551 hy388_3 p32) dmX14_deeper zf14 rOb_0 dX14_readAt_564 zw3178 rfl rfl (Nat.le_of_ble_eq_true rfl) (Nat.le_of_ble_eq_true rfl) (by omega) (by omega) (Nat.le_of_ble_eq_true rfl) (kk := fun s564 Ws564 qs564 => ?_)
                have h := h s564 Ws564 (rNMp.keep qs564.1 rfl rfl rfl rfl rfl) (TPRp.keep qs564.1 rfl rfl rfl) (WNp.keep qs564.1 rfl rfl rfl rfl rfl) (PNp.keep qs564.1 rfl rfl rfl rfl rfl) (CCp.keep qs564.1 rfl rfl rfl rfl rfl rfl rfl) (qs564.1.R rfl) (qs564.1.F rfl) (qs564.1.F rfl) (qs564.1.F rfl) (qs564.1.F rfl) (qs564.1.F rfl) (qs564.1.F rfl) (qs564.1.F rfl) (qs564.1.F rfl) (qs564.1.F rfl) (qs564.1.F rfl) (fun i => qs564.1.A (f := 26) (by decide) rfl) (fun i => qs564.1.A (f := 34) (by decide) rfl) (fun i => qs564.1.A (f := 35) (by decide) rfl) (fun i => qs564.1.A (f := 37) (by decide) rfl) (fun i => qs564.1.A (f := 40) (by decide) rfl) (qs564.1.FG g0 rfl) (qs564.1.FG g0 rfl) (qs564.1.FG g0 rfl) (qs564.1.FG g0 rfl) (qs564.1.FG g0 rfl) (fun i => qs564.1.AG (f := 31) g0 (by decide) rfl) (fun i => qs564.1.AG (f := 33) g0 (by decide) rfl) (fun i => qs564.1.AG (f := 34) g0 (by decide) rfl) (fun i => qs564.1.AG (f := 35) g0 (by decide) rfl) (RG.keep (c0 := 0) qs564.1 rfl rfl rfl rfl rfl rfl rfl rfl rfl rfl rfl rfl rfl rfl rfl rfl rfl rfl) qs564.2
                refine z_aload_n hC (pc := 567) 1 dX14_readAt_567 rfl rfl ?_
                refine y_get hC (pc := 568) zf14 rOb_0 40 (v := .ref (κ 1040)) dX14_readAt_568 zw2507 (rv_c rfl) (kk := ?_)
                refine z_aload_n hC (pc := 571) 1 dX14_readAt_571 rfl rfl ?_
                refine y_get hC (pc := 572) zf14 rOb_0 39 (v := iv (rF s564 0 39)) dX14_readAt_572 zw2506 (rv_i (Or.inl rfl) rfl) (kk := ?_)
                have h := h (Ws564.f _ _)
                refine z_bipush hC (pc := 575) (v := Int32.ofInt 25) dX14_readAt_575 (by decide) ?_
                obtain ⟨b33, h⟩ := h
                refine y_iast hC (pc := 577) (rAr_m rfl) dX14_readAt_577 b33 (v := 25) (kk := ?_)
                have W34 := Ws564.sA (p := 1040) (i := (rF s564 0 39)) (x := 25) (r_lit rfl)
                refine z_aload_n hC (pc := 578) 1 dX14_readAt_578 rfl rfl ?_
                refine z_dup hC (pc := 579) dX14_readAt_579 rfl ?_
                refine y_get hC (pc := 580) zf14 rOb_0 39 (v := iv (rF s564 0 39)) dX14_readAt_580 zw2506 (rv_i (Or.inl rfl) rfl) (kk := ?_)
                refine z_iconst hC (pc := 583) (v := Int32.ofInt 1) dX14_readAt_583 (by decide) ?_
                refine y_iadd hC (pc := 584) (v := ((rF s564 0 39) + 1)) dX14_readAt_584 rfl ?_
                obtain ⟨r35, h⟩ := h
                refine y_putI hC (pc := 585) zf14 rOb_0 39 (x := ((rF s564 0 39) + 1)) dX14_readAt_585 zw2506 (Or.inl rfl) rfl rfl (kk := ?_)
                have W36 := W34.sF (q := 0) (f := 39) (x := ((rF s564 0 39) + 1)) r35
                refine z_aload_n hC (pc := 588) 1 dX14_readAt_588 rfl rfl ?_
                refine z_bipush hC (pc := 589) (v := Int32.ofInt 25) dX14_readAt_589 (by decide) ?_
                refine z_iload hC (pc := 591) 0 dX14_readAt_591 rfl ?_
                refine z_iload_n hC (pc := 593) 2 dX14_readAt_593 rfl rfl ?_
                obtain ⟨p37, h⟩ := h
                refine y_callVv hC (pc := 594) (As := [iv 25, iv v395, iv x1]) (kX14_note_t l G κ (sF (sA s564 1040 (rF s564 0 39) 25) 0 39 ((rF s564 0 39) + 1)) 25 v395 x1 gg W36 (r_lit rfl) hv395 hx1 p37) dmX14_note zf14 rOb_0 dX14_readAt_594 zw3111 rfl rfl (Nat.le_of_ble_eq_true rfl) (Nat.le_of_ble_eq_true rfl) (by omega) (by omega) (Nat.le_of_ble_eq_true rfl) (kk := fun s594 Ws594 qs594 => ?_)
                have h := h s594 Ws594 (rNMp.keep qs594.1 rfl rfl rfl rfl rfl) (TPRp.keep qs594.1 rfl rfl rfl) (PNp.keep qs594.1 rfl rfl rfl rfl rfl) (CCp.keep qs594.1 rfl rfl rfl rfl rfl rfl rfl) (qs594.1.R rfl) (qs594.1.F rfl) (qs594.1.F rfl) (qs594.1.F rfl) (qs594.1.F rfl) (qs594.1.F rfl) (qs594.1.F rfl) (qs594.1.F rfl) (qs594.1.F rfl) (qs594.1.F rfl) (qs594.1.F rfl) (qs594.1.F rfl) (fun i => qs594.1.A (f := 26) (by decide) rfl) (fun i => qs594.1.A (f := 40) (by decide) rfl) (qs594.1.FG g0 rfl) (qs594.1.FG g0 rfl) (qs594.1.FG g0 rfl) (qs594.1.FG g0 rfl) (qs594.1.FG g0 rfl) (fun i => qs594.1.AG (f := 31) g0 (by decide) rfl) (fun i => qs594.1.AG (f := 33) g0 (by decide) rfl) (fun i => qs594.1.AG (f := 34) g0 (by decide) rfl) (fun i => qs594.1.AG (f := 35) g0 (by decide) rfl) (fz_keep qs594.1 rfl) qs594.2
                exact y_retv hR dX14_readAt_597 Ws594 (Nat.le_of_ble_eq_true rfl) (Nat.le_of_ble_eq_true rfl) ⟨(rKeep.tr (rKeep.tr (rKeep.tr (rKeep.tr (rKeep.tr (rKeep.tr (rKeep.tr (rKeep.tr (rKeep.tr (rKeep.tr (rKeep.tr (rKeep.tr (rKeep.tr rKeep.rf kJ rfl rfl rfl rfl rfl) qs395.1 rfl rfl rfl rfl rfl) (rKeep.sAk (f := 3) g0 (by decide)) rfl rfl rfl rfl rfl) (rKeep.sAk (f := 29) g0 (by decide)) rfl rfl rfl rfl rfl) (rKeep.sAk (f := 30) g0 (by decide)) rfl rfl rfl rfl rfl) (rKeep.sAk (f := 31) g0 (by decide)) rfl rfl rfl rfl rfl) (rKeep.sFk (f := 32) g0) rfl rfl rfl rfl rfl) qs481.1 rfl rfl rfl rfl rfl) qs551.1 rfl rfl rfl rfl rfl) qs564.1 rfl rfl rfl rfl rfl) (rKeep.sA0 (f := 40) (by decide)) rfl rfl rfl rfl rfl) (rKeep.sF0 (f := 39)) rfl rfl rfl rfl rfl) qs594.1 rfl rfl rfl rfl rfl), h⟩
              · have h := hF c
                exact y_retv hR dX14_readAt_561 Ws551 (Nat.le_of_ble_eq_true rfl) (Nat.le_of_ble_eq_true rfl) ⟨(rKeep.tr (rKeep.tr (rKeep.tr (rKeep.tr (rKeep.tr (rKeep.tr (rKeep.tr (rKeep.tr (rKeep.tr rKeep.rf kJ rfl rfl rfl rfl rfl) qs395.1 rfl rfl rfl rfl rfl) (rKeep.sAk (f := 3) g0 (by decide)) rfl rfl rfl rfl rfl) (rKeep.sAk (f := 29) g0 (by decide)) rfl rfl rfl rfl rfl) (rKeep.sAk (f := 30) g0 (by decide)) rfl rfl rfl rfl rfl) (rKeep.sAk (f := 31) g0 (by decide)) rfl rfl rfl rfl rfl) (rKeep.sFk (f := 32) g0) rfl rfl rfl rfl rfl) qs481.1 rfl rfl rfl rfl rfl) qs551.1 rfl rfl rfl rfl rfl), h⟩
            · have h := hF c
              refine z_aload_n hC (pc := 493) 1 dX14_readAt_493 rfl rfl ?_
              refine z_dup hC (pc := 494) dX14_readAt_494 rfl ?_
              refine y_get hC (pc := 495) zf14 rOb_0 29 (v := iv (rF s481 0 29)) dX14_readAt_495 zw2496 (rv_i (Or.inl rfl) rfl) (kk := ?_)
              have h := h (Ws481.f _ _)
              refine z_iconst hC (pc := 498) (v := Int32.ofInt 1) dX14_readAt_498 (by decide) ?_
              refine y_iadd hC (pc := 499) (v := ((rF s481 0 29) + 1)) dX14_readAt_499 rfl ?_
              obtain ⟨r38, h⟩ := h
              refine y_putI hC (pc := 500) zf14 rOb_0 29 (x := ((rF s481 0 29) + 1)) dX14_readAt_500 zw2496 (Or.inl rfl) rfl rfl (kk := ?_)
              have W39 := Ws481.sF (q := 0) (f := 29) (x := ((rF s481 0 29) + 1)) r38
              refine z_aload_n hC (pc := 503) 1 dX14_readAt_503 rfl rfl ?_
              refine z_bipush hC (pc := 504) (v := Int32.ofInt 41) dX14_readAt_504 (by decide) ?_
              obtain ⟨p40, h⟩ := h
              refine y_callVv hC (pc := 506) (As := [iv 41]) (kX14_need l G κ (sF s481 0 29 ((rF s481 0 29) + 1)) 41 W39 (r_lit rfl) p40) dmX14_need zf14 rOb_0 dX14_readAt_506 zw3136 rfl rfl (Nat.le_of_ble_eq_true rfl) (Nat.le_of_ble_eq_true rfl) (by omega) (by omega) (Nat.le_of_ble_eq_true rfl) (kk := fun s506 Ws506 qs506 => ?_)
              have h := h s506 Ws506 (rNMp.keep qs506.1 rfl rfl rfl rfl rfl) (TPRp.keep qs506.1 rfl rfl rfl) (WNp.keep qs506.1 rfl rfl rfl rfl rfl) (PNp.keep qs506.1 rfl rfl rfl rfl rfl) (CCp.keep qs506.1 rfl rfl rfl rfl rfl rfl rfl) (qs506.1.R rfl) (qs506.1.F rfl) (qs506.1.F rfl) (qs506.1.F rfl) (qs506.1.F rfl) (qs506.1.F rfl) (qs506.1.F rfl) (qs506.1.F rfl) (qs506.1.F rfl) (qs506.1.F rfl) (qs506.1.F rfl) (fun i => qs506.1.A (f := 26) (by decide) rfl) (fun i => qs506.1.A (f := 34) (by decide) rfl) (fun i => qs506.1.A (f := 35) (by decide) rfl) (fun i => qs506.1.A (f := 37) (by decide) rfl) (fun i => qs506.1.A (f := 40) (by decide) rfl) (qs506.1.FG g0 rfl) (qs506.1.FG g0 rfl) (qs506.1.FG g0 rfl) (qs506.1.FG g0 rfl) (qs506.1.FG g0 rfl) (fun i => qs506.1.AG (f := 31) g0 (by decide) rfl) (fun i => qs506.1.AG (f := 33) g0 (by decide) rfl) (fun i => qs506.1.AG (f := 34) g0 (by decide) rfl) (fun i => qs506.1.AG (f := 35) g0 (by decide) rfl) (RG.keep (c0 := 0) qs506.1 rfl rfl rfl rfl rfl rfl rfl rfl rfl rfl rfl rfl rfl rfl rfl rfl rfl rfl) qs506.2
              refine z_aload_n hC (pc := 509) 1 dX14_readAt_509 rfl rfl ?_
              refine z_aload_n hC (pc := 510) 1 dX14_readAt_510 rfl rfl ?_
              refine y_get hC (pc := 511) zf14 rOb_0 19 (v := iv (rF s506 0 19)) dX14_readAt_511 zw2486 (rv_i (Or.inl rfl) rfl) (kk := ?_)
              have h := h (Ws506.f _ _)
              obtain ⟨p41, h⟩ := h
              refine y_callVv hC (pc := 514) (As := [iv (rF s506 0 19)]) (kX14_need l G κ s506 (rF s506 0 19) Ws506 (Ws506.f _ _) p41) dmX14_need zf14 rOb_0 dX14_readAt_514 zw3136 rfl rfl (Nat.le_of_ble_eq_true rfl) (Nat.le_of_ble_eq_true rfl) (by omega) (by omega) (Nat.le_of_ble_eq_true rfl) (kk := fun s514 Ws514 qs514 => ?_)
              have h := h s514 Ws514 (rNMp.keep qs514.1 rfl rfl rfl rfl rfl) (TPRp.keep qs514.1 rfl rfl rfl) (WNp.keep qs514.1 rfl rfl rfl rfl rfl) (PNp.keep qs514.1 rfl rfl rfl rfl rfl) (CCp.keep qs514.1 rfl rfl rfl rfl rfl rfl rfl) (qs514.1.R rfl) (qs514.1.F rfl) (qs514.1.F rfl) (qs514.1.F rfl) (qs514.1.F rfl) (qs514.1.F rfl) (qs514.1.F rfl) (qs514.1.F rfl) (qs514.1.F rfl) (qs514.1.F rfl) (qs514.1.F rfl) (fun i => qs514.1.A (f := 26) (by decide) rfl) (fun i => qs514.1.A (f := 34) (by decide) rfl) (fun i => qs514.1.A (f := 35) (by decide) rfl) (fun i => qs514.1.A (f := 37) (by decide) rfl) (fun i => qs514.1.A (f := 40) (by decide) rfl) (qs514.1.FG g0 rfl) (qs514.1.FG g0 rfl) (qs514.1.FG g0 rfl) (qs514.1.FG g0 rfl) (qs514.1.FG g0 rfl) (fun i => qs514.1.AG (f := 31) g0 (by decide) rfl) (fun i => qs514.1.AG (f := 33) g0 (by decide) rfl) (fun i => qs514.1.AG (f := 34) g0 (by decide) rfl) (fun i => qs514.1.AG (f := 35) g0 (by decide) rfl) (RG.keep (c0 := 0) qs514.1 rfl rfl rfl rfl rfl rfl rfl rfl rfl rfl rfl rfl rfl rfl rfl rfl rfl rfl) qs514.2
              refine z_aload_n hC (pc := 517) 1 dX14_readAt_517 rfl rfl ?_
              refine y_get hC (pc := 518) zf14 rOb_0 7 (v := .ref (κ (rR σ 7))) dX14_readAt_518 zw2475 (rv_g rfl ((qs514.1.R rfl).trans ((qs506.1.R rfl).trans ((qs481.1.R rfl).trans ((qs395.1.R rfl).trans (kJ.R rfl))))) g0) (kk := ?_)
              refine y_getN hC (pc := 521) zf13 (rOb_k g0) 2 (v := .ref (κ (1000 * ((rR σ 7) + 1) + 2))) dX14_readAt_521 zw2314 (rv_c rfl) (kk := ?_)
              refine z_iload hC (pc := 524) 0 dX14_readAt_524 rfl ?_
              refine z_aload_n hC (pc := 526) 1 dX14_readAt_526 rfl rfl ?_
              refine z_bipush hC (pc := 527) (v := Int32.ofInt 9) dX14_readAt_527 (by decide) ?_
              refine z_iconst hC (pc := 529) (v := Int32.ofInt 0) dX14_readAt_529 (by decide) ?_
              refine z_iconst hC (pc := 530) (v := Int32.ofInt 0) dX14_readAt_530 (by decide) ?_
              refine z_iload_n hC (pc := 531) 2 dX14_readAt_531 rfl rfl ?_
              obtain ⟨p42, h⟩ := h
              refine y_callVi hC (pc := 532) (As := [iv 9, iv 0, iv 0, iv x1]) (kX14_node_t l G κ s514 9 0 0 x1 gg Ws514 (r_lit rfl) (r_lit rfl) (r_lit rfl) hx1 p42) dmX14_node zf14 rOb_0 dX14_readAt_532 zw3170 rfl rfl (Nat.le_of_ble_eq_true rfl) (Nat.le_of_ble_eq_true rfl) (by omega) (by omega) (Nat.le_of_ble_eq_true rfl) (kk := fun v532 s532 hv532 Ws532 qs532 => ?_)
              have h := h v532 s532 hv532 Ws532 (rNMp.keep qs532.1 rfl rfl rfl rfl rfl) (TPRp.keep qs532.1 rfl rfl rfl) (WNp.keep qs532.1 rfl rfl rfl rfl rfl) (CCp.keep qs532.1 rfl rfl rfl rfl rfl rfl rfl) (qs532.1.R rfl) (qs532.1.F rfl) (qs532.1.F rfl) (qs532.1.F rfl) (qs532.1.F rfl) (qs532.1.F rfl) (qs532.1.F rfl) (qs532.1.F rfl) (qs532.1.F rfl) (qs532.1.F rfl) (qs532.1.F rfl) (qs532.1.F rfl) (qs532.1.F rfl) (fun i => qs532.1.A (f := 26) (by decide) rfl) (fun i => qs532.1.A (f := 34) (by decide) rfl) (fun i => qs532.1.A (f := 35) (by decide) rfl) (fun i => qs532.1.A (f := 37) (by decide) rfl) (fun i => qs532.1.A (f := 40) (by decide) rfl) (qs532.1.FG g0 rfl) (qs532.1.FG g0 rfl) (qs532.1.FG g0 rfl) (qs532.1.FG g0 rfl) (fun i => qs532.1.AG (f := 31) g0 (by decide) rfl) (fun i => qs532.1.AG (f := 33) g0 (by decide) rfl) (fun i => qs532.1.AG (f := 34) g0 (by decide) rfl) (fun i => qs532.1.AG (f := 35) g0 (by decide) rfl) (fz_keep qs532.1 rfl) qs532.2
              obtain ⟨b43, h⟩ := h
              refine y_iast hC (pc := 535) (rAr_k g0 rfl rfl) dX14_readAt_535 b43 (v := v532) (kk := ?_)
              have W44 := Ws532.sA (p := (1000 * ((rR σ 7) + 1) + 2)) (i := v395) (x := v532) hv532
              refine z_aload_n hC (pc := 536) 1 dX14_readAt_536 rfl rfl ?_
              refine z_bipush hC (pc := 537) (v := Int32.ofInt 6) dX14_readAt_537 (by decide) ?_
              refine z_iload hC (pc := 539) 0 dX14_readAt_539 rfl ?_
              refine z_iload_n hC (pc := 541) 2 dX14_readAt_541 rfl rfl ?_
              obtain ⟨p45, h⟩ := h
              refine y_callVv hC (pc := 542) (As := [iv 6, iv v395, iv x1]) (kX14_note_t l G κ (sT s532 (rR σ 7) 2 v395 v532) 6 v395 x1 gg W44 (r_lit rfl) hv395 hx1 p45) dmX14_note zf14 rOb_0 dX14_readAt_542 zw3111 rfl rfl (Nat.le_of_ble_eq_true rfl) (Nat.le_of_ble_eq_true rfl) (by omega) (by omega) (Nat.le_of_ble_eq_true rfl) (kk := fun s542 Ws542 qs542 => ?_)
              have h := h s542 Ws542 (rNMp.keep qs542.1 rfl rfl rfl rfl rfl) (TPRp.keep qs542.1 rfl rfl rfl) (PNp.keep qs542.1 rfl rfl rfl rfl rfl) (CCp.keep qs542.1 rfl rfl rfl rfl rfl rfl rfl) (qs542.1.R rfl) (qs542.1.F rfl) (qs542.1.F rfl) (qs542.1.F rfl) (qs542.1.F rfl) (qs542.1.F rfl) (qs542.1.F rfl) (qs542.1.F rfl) (qs542.1.F rfl) (qs542.1.F rfl) (qs542.1.F rfl) (qs542.1.F rfl) (fun i => qs542.1.A (f := 26) (by decide) rfl) (fun i => qs542.1.A (f := 40) (by decide) rfl) (qs542.1.FG g0 rfl) (qs542.1.FG g0 rfl) (qs542.1.FG g0 rfl) (qs542.1.FG g0 rfl) (qs542.1.FG g0 rfl) (fun i => qs542.1.AG (f := 31) g0 (by decide) rfl) (fun i => qs542.1.AG (f := 33) g0 (by decide) rfl) (fun i => qs542.1.AG (f := 34) g0 (by decide) rfl) (fun i => qs542.1.AG (f := 35) g0 (by decide) rfl) (fz_keep qs542.1 rfl) qs542.2
              exact y_retv hR dX14_readAt_545 Ws542 (Nat.le_of_ble_eq_true rfl) (Nat.le_of_ble_eq_true rfl) ⟨(rKeep.tr (rKeep.tr (rKeep.tr (rKeep.tr (rKeep.tr (rKeep.tr (rKeep.tr (rKeep.tr (rKeep.tr (rKeep.tr (rKeep.tr (rKeep.tr (rKeep.tr (rKeep.tr rKeep.rf kJ rfl rfl rfl rfl rfl) qs395.1 rfl rfl rfl rfl rfl) (rKeep.sAk (f := 3) g0 (by decide)) rfl rfl rfl rfl rfl) (rKeep.sAk (f := 29) g0 (by decide)) rfl rfl rfl rfl rfl) (rKeep.sAk (f := 30) g0 (by decide)) rfl rfl rfl rfl rfl) (rKeep.sAk (f := 31) g0 (by decide)) rfl rfl rfl rfl rfl) (rKeep.sFk (f := 32) g0) rfl rfl rfl rfl rfl) qs481.1 rfl rfl rfl rfl rfl) (rKeep.sF0 (f := 29)) rfl rfl rfl rfl rfl) qs506.1 rfl rfl rfl rfl rfl) qs514.1 rfl rfl rfl rfl rfl) qs532.1 rfl rfl rfl rfl rfl) (rKeep.sAk (f := 2) g0 (by decide)) rfl rfl rfl rfl rfl) qs542.1 rfl rfl rfl rfl rfl), h⟩
          obtain ⟨hT, hF⟩ := h
          refine y_if_lt hC (pc := 376) 388 hv373 dX14_readAt_376 (by decide) (fun c => ?_) (fun c => ?_)
          · have h := hT c
            refine z_lvs [1, 2, 3, 0] rfl ?_
            exact j388 s350 y349_3 v350 Ws350 hy349_3 hv350 (rKeep.tr (rKeep.tr rKeep.rf kJ rfl rfl rfl rfl rfl) qs350.1 rfl rfl rfl rfl rfl) h
          · have h := hF c
            refine z_aload_n hC (pc := 379) 1 dX14_readAt_379 rfl rfl ?_
            refine z_iconst hC (pc := 380) (v := Int32.ofInt 3) dX14_readAt_380 (by decide) ?_
            refine z_aload_n hC (pc := 381) 1 dX14_readAt_381 rfl rfl ?_
            refine y_get hC (pc := 382) zf14 rOb_0 41 (v := iv (rF s350 0 41)) dX14_readAt_382 zw2508 (rv_i (Or.inl rfl) rfl) (kk := ?_)
            have h := h (Ws350.f _ _)
            obtain ⟨p46, h⟩ := h
            refine y_callVv hC (pc := 385) (As := [iv 3, iv (rF s350 0 41)]) (kX14_bad l G κ s350 3 (rF s350 0 41) Ws350 (r_lit rfl) (Ws350.f _ _) p46) dmX14_bad zf14 rOb_0 dX14_readAt_385 zw3000 rfl rfl (Nat.le_of_ble_eq_true rfl) (Nat.le_of_ble_eq_true rfl) (by omega) (by omega) (Nat.le_of_ble_eq_true rfl) (kk := fun s385 Ws385 qs385 => ?_)
            have h := h s385 Ws385 (rNMp.keep qs385.1 rfl rfl rfl rfl rfl) (TPRp.keep qs385.1 rfl rfl rfl) (WNp.keep qs385.1 rfl rfl rfl rfl rfl) (PNp.keep qs385.1 rfl rfl rfl rfl rfl) (CCp.keep qs385.1 rfl rfl rfl rfl rfl rfl rfl) (qs385.1.R rfl) (qs385.1.F rfl) (qs385.1.F rfl) (qs385.1.F rfl) (qs385.1.F rfl) (qs385.1.F rfl) (qs385.1.F rfl) (qs385.1.F rfl) (qs385.1.F rfl) (qs385.1.F rfl) (qs385.1.F rfl) (qs385.1.F rfl) (fun i => qs385.1.A (f := 26) (by decide) rfl) (fun i => qs385.1.A (f := 34) (by decide) rfl) (fun i => qs385.1.A (f := 35) (by decide) rfl) (fun i => qs385.1.A (f := 37) (by decide) rfl) (fun i => qs385.1.A (f := 40) (by decide) rfl) (qs385.1.FG g0 rfl) (qs385.1.FG g0 rfl) (qs385.1.FG g0 rfl) (qs385.1.FG g0 rfl) (qs385.1.FG g0 rfl) (fun i => qs385.1.AG (f := 31) g0 (by decide) rfl) (fun i => qs385.1.AG (f := 33) g0 (by decide) rfl) (fun i => qs385.1.AG (f := 34) g0 (by decide) rfl) (fun i => qs385.1.AG (f := 35) g0 (by decide) rfl) (RG.keep (c0 := 0) qs385.1 rfl rfl rfl rfl rfl rfl rfl rfl rfl rfl rfl rfl rfl rfl rfl rfl rfl rfl) qs385.2
            refine z_lvs [1, 2, 3, 0] rfl ?_
            exact j388 s385 y349_3 v350 Ws385 hy349_3 hv350 (rKeep.tr (rKeep.tr (rKeep.tr rKeep.rf kJ rfl rfl rfl rfl rfl) qs350.1 rfl rfl rfl rfl rfl) qs385.1 rfl rfl rfl rfl rfl) h
        · have h := hF c
          exact y_retv hR dX14_readAt_362 Ws350 (Nat.le_of_ble_eq_true rfl) (Nat.le_of_ble_eq_true rfl) ⟨(rKeep.tr (rKeep.tr rKeep.rf kJ rfl rfl rfl rfl rfl) qs350.1 rfl rfl rfl rfl rfl), h⟩
      obtain ⟨hT, hF⟩ := h
      refine y_if_ge hC (pc := 311) 349 (Ws16.f _ _) dX14_readAt_311 (by decide) (fun c => ?_) (fun c => ?_)
      · have h := hT c
        refine z_lvs [1, 2, 0] rfl ?_
        exact j349 s16 v1 Ws16 hv1 (rKeep.tr (rKeep.tr rKeep.rf (rKeep.sF0 (f := 29)) rfl rfl rfl rfl rfl) qs16.1 rfl rfl rfl rfl rfl) h
      · have h := hF c
        refine z_aload_n hC (pc := 314) 1 dX14_readAt_314 rfl rfl ?_
        refine z_iconst hC (pc := 315) (v := Int32.ofInt 1) dX14_readAt_315 (by decide) ?_
        refine z_aload_n hC (pc := 316) 1 dX14_readAt_316 rfl rfl ?_
        refine y_get hC (pc := 317) zf14 rOb_0 26 (v := .ref (κ 1026)) dX14_readAt_317 zw2493 (rv_c rfl) (kk := ?_)
        refine z_aload_n hC (pc := 320) 1 dX14_readAt_320 rfl rfl ?_
        refine y_get hC (pc := 321) zf14 rOb_0 28 (v := iv (rF s16 0 28)) dX14_readAt_321 zw2495 (rv_i (Or.inl rfl) rfl) (kk := ?_)
        have h := h (Ws16.f _ _)
        refine z_aload_n hC (pc := 324) 1 dX14_readAt_324 rfl rfl ?_
        refine y_get hC (pc := 325) zf14 rOb_0 29 (v := iv (rF s16 0 29)) dX14_readAt_325 zw2496 (rv_i (Or.inl rfl) rfl) (kk := ?_)
        have h := h (Ws16.f _ _)
        obtain ⟨p47, h⟩ := h
        refine y_callSi hC (pc := 328) (As := [.ref (κ 1026), iv (rF s16 0 28), iv (rF s16 0 29)]) (kX14_wordEnd_t l G κ s16 1026 4001 (rF s16 0 28) (rF s16 0 29) Ws16 (rAr_m rfl) (Ws16.f _ _) (Ws16.f _ _) p47) dmX14_wordEnd dX14_readAt_328 zw3009 rfl rfl (Nat.le_of_ble_eq_true rfl) (Nat.le_of_ble_eq_true rfl) (by omega) (by omega) (Nat.le_of_ble_eq_true rfl) (kk := fun v328 s328 hv328 Ws328 qs328 => ?_)
        obtain ⟨es328, qs328⟩ := qs328
        have es328 := es328.symm
        subst es328
        have h := h v328 hv328 qs328
        refine z_aload_n hC (pc := 331) 1 dX14_readAt_331 rfl rfl ?_
        refine y_get hC (pc := 332) zf14 rOb_0 29 (v := iv (rF s16 0 29)) dX14_readAt_332 zw2496 (rv_i (Or.inl rfl) rfl) (kk := ?_)
        obtain ⟨hT, hF⟩ := h
        refine y_icmp_le hC (pc := 335) 342 hv328 (Ws16.f _ _) dX14_readAt_335 (by decide) (fun c => ?_) (fun c => ?_)
        · have h := hT c
          refine z_aload_n hC (pc := 342) 1 dX14_readAt_342 rfl rfl ?_
          obtain ⟨p48, h⟩ := h
          refine y_callVi hC (pc := 343) (As := []) (kX14_place l G κ s16  Ws16  p48) dmX14_place zf14 rOb_0 dX14_readAt_343 zw3103 rfl rfl (Nat.le_of_ble_eq_true rfl) (Nat.le_of_ble_eq_true rfl) (by omega) (by omega) (Nat.le_of_ble_eq_true rfl) (kk := fun v343 s343 hv343 Ws343 qs343 => ?_)
          obtain ⟨es343, qs343⟩ := qs343
          have es343 := es343.symm
          subst es343
          have h := h v343 hv343 qs343
          obtain ⟨p49, h⟩ := h
          refine y_callVv hC (pc := 346) (As := [iv 1, iv v343]) (kX14_bad l G κ s16 1 v343 Ws16 (r_lit rfl) hv343 p49) dmX14_bad zf14 rOb_0 dX14_readAt_346 zw3000 rfl rfl (Nat.le_of_ble_eq_true rfl) (Nat.le_of_ble_eq_true rfl) (by omega) (by omega) (Nat.le_of_ble_eq_true rfl) (kk := fun s346 Ws346 qs346 => ?_)
          have h := h s346 Ws346 (rNMp.keep qs346.1 rfl rfl rfl rfl rfl) (TPRp.keep qs346.1 rfl rfl rfl) (WNp.keep qs346.1 rfl rfl rfl rfl rfl) (PNp.keep qs346.1 rfl rfl rfl rfl rfl) (CCp.keep qs346.1 rfl rfl rfl rfl rfl rfl rfl) (qs346.1.R rfl) (qs346.1.F rfl) (qs346.1.F rfl) (qs346.1.F rfl) (qs346.1.F rfl) (qs346.1.F rfl) (qs346.1.F rfl) (qs346.1.F rfl) (qs346.1.F rfl) (qs346.1.F rfl) (qs346.1.F rfl) (qs346.1.F rfl) (fun i => qs346.1.A (f := 26) (by decide) rfl) (fun i => qs346.1.A (f := 34) (by decide) rfl) (fun i => qs346.1.A (f := 35) (by decide) rfl) (fun i => qs346.1.A (f := 37) (by decide) rfl) (fun i => qs346.1.A (f := 40) (by decide) rfl) (qs346.1.FG g0 rfl) (qs346.1.FG g0 rfl) (qs346.1.FG g0 rfl) (qs346.1.FG g0 rfl) (qs346.1.FG g0 rfl) (fun i => qs346.1.AG (f := 31) g0 (by decide) rfl) (fun i => qs346.1.AG (f := 33) g0 (by decide) rfl) (fun i => qs346.1.AG (f := 34) g0 (by decide) rfl) (fun i => qs346.1.AG (f := 35) g0 (by decide) rfl) (RG.keep (c0 := 0) qs346.1 rfl rfl rfl rfl rfl rfl rfl rfl rfl rfl rfl rfl rfl rfl rfl rfl rfl rfl) qs346.2
          refine z_lvs [1, 2, 0] rfl ?_
          exact j349 s346 v1 Ws346 hv1 (rKeep.tr (rKeep.tr (rKeep.tr rKeep.rf (rKeep.sF0 (f := 29)) rfl rfl rfl rfl rfl) qs16.1 rfl rfl rfl rfl rfl) qs346.1 rfl rfl rfl rfl rfl) h
        · have h := hF c
          refine z_iload_n hC (pc := 338) 0 dX14_readAt_338 rfl rfl ?_
          refine z_goto hC (pc := 339) 346 dX14_readAt_339 (by decide) ?_
          obtain ⟨p50, h⟩ := h
          refine y_callVv hC (pc := 346) (As := [iv 1, iv v1]) (kX14_bad l G κ s16 1 v1 Ws16 (r_lit rfl) hv1 p50) dmX14_bad zf14 rOb_0 dX14_readAt_346 zw3000 rfl rfl (Nat.le_of_ble_eq_true rfl) (Nat.le_of_ble_eq_true rfl) (by omega) (by omega) (Nat.le_of_ble_eq_true rfl) (kk := fun s346 Ws346 qs346 => ?_)
          have h := h s346 Ws346 (rNMp.keep qs346.1 rfl rfl rfl rfl rfl) (TPRp.keep qs346.1 rfl rfl rfl) (WNp.keep qs346.1 rfl rfl rfl rfl rfl) (PNp.keep qs346.1 rfl rfl rfl rfl rfl) (CCp.keep qs346.1 rfl rfl rfl rfl rfl rfl rfl) (qs346.1.R rfl) (qs346.1.F rfl) (qs346.1.F rfl) (qs346.1.F rfl) (qs346.1.F rfl) (qs346.1.F rfl) (qs346.1.F rfl) (qs346.1.F rfl) (qs346.1.F rfl) (qs346.1.F rfl) (qs346.1.F rfl) (qs346.1.F rfl) (fun i => qs346.1.A (f := 26) (by decide) rfl) (fun i => qs346.1.A (f := 34) (by decide) rfl) (fun i => qs346.1.A (f := 35) (by decide) rfl) (fun i => qs346.1.A (f := 37) (by decide) rfl) (fun i => qs346.1.A (f := 40) (by decide) rfl) (qs346.1.FG g0 rfl) (qs346.1.FG g0 rfl) (qs346.1.FG g0 rfl) (qs346.1.FG g0 rfl) (qs346.1.FG g0 rfl) (fun i => qs346.1.AG (f := 31) g0 (by decide) rfl) (fun i => qs346.1.AG (f := 33) g0 (by decide) rfl) (fun i => qs346.1.AG (f := 34) g0 (by decide) rfl) (fun i => qs346.1.AG (f := 35) g0 (by decide) rfl) (RG.keep (c0 := 0) qs346.1 rfl rfl rfl rfl rfl rfl rfl rfl rfl rfl rfl rfl rfl rfl rfl rfl rfl rfl) qs346.2
          refine z_lvs [1, 2, 0] rfl ?_
          exact j349 s346 v1 Ws346 hv1 (rKeep.tr (rKeep.tr (rKeep.tr rKeep.rf (rKeep.sF0 (f := 29)) rfl rfl rfl rfl rfl) qs16.1 rfl rfl rfl rfl rfl) qs346.1 rfl rfl rfl rfl rfl) h
    · have h := hF c
      refine z_aload_n hC (pc := 113) 1 dX14_readAt_113 rfl rfl ?_
      refine y_get hC (pc := 114) zf14 rOb_0 33 (v := iv (rF s16 0 33)) dX14_readAt_114 zw2500 (rv_i (Or.inl rfl) rfl) (kk := ?_)
      have h := h (Ws16.f _ _)
      obtain ⟨hT, hF⟩ := h
      refine y_if_ge hC (pc := 117) 126 (Ws16.f _ _) dX14_readAt_117 (by decide) (fun c => ?_) (fun c => ?_)
      · have h := hT c
        refine z_aload_n hC (pc := 126) 1 dX14_readAt_126 rfl rfl ?_
        refine z_dup hC (pc := 127) dX14_readAt_127 rfl ?_
        refine y_get hC (pc := 128) zf14 rOb_0 29 (v := iv (rF s16 0 29)) dX14_readAt_128 zw2496 (rv_i (Or.inl rfl) rfl) (kk := ?_)
        have h := h (Ws16.f _ _)
        refine z_iconst hC (pc := 131) (v := Int32.ofInt 5) dX14_readAt_131 (by decide) ?_
        refine y_iadd hC (pc := 132) (v := ((rF s16 0 29) + 5)) dX14_readAt_132 rfl ?_
        obtain ⟨r51, h⟩ := h
        refine y_putI hC (pc := 133) zf14 rOb_0 29 (x := ((rF s16 0 29) + 5)) dX14_readAt_133 zw2496 (Or.inl rfl) rfl rfl (kk := ?_)
        have W52 := Ws16.sF (q := 0) (f := 29) (x := ((rF s16 0 29) + 5)) r51
        refine z_aload_n hC (pc := 136) 1 dX14_readAt_136 rfl rfl ?_
        refine z_bipush hC (pc := 137) (v := Int32.ofInt 46) dX14_readAt_137 (by decide) ?_
        obtain ⟨p53, h⟩ := h
        refine y_callVv hC (pc := 139) (As := [iv 46]) (kX14_need l G κ (sF s16 0 29 ((rF s16 0 29) + 5)) 46 W52 (r_lit rfl) p53) dmX14_need zf14 rOb_0 dX14_readAt_139 zw3136 rfl rfl (Nat.le_of_ble_eq_true rfl) (Nat.le_of_ble_eq_true rfl) (by omega) (by omega) (Nat.le_of_ble_eq_true rfl) (kk := fun s139 Ws139 qs139 => ?_)
        have h := h s139 Ws139 (rNMp.keep qs139.1 rfl rfl rfl rfl rfl) (TPRp.keep qs139.1 rfl rfl rfl) (WNp.keep qs139.1 rfl rfl rfl rfl rfl) (PNp.keep qs139.1 rfl rfl rfl rfl rfl) (CCp.keep qs139.1 rfl rfl rfl rfl rfl rfl rfl) (qs139.1.R rfl) (qs139.1.F rfl) (qs139.1.F rfl) (qs139.1.F rfl) (qs139.1.F rfl) (qs139.1.F rfl) (qs139.1.F rfl) (qs139.1.F rfl) (qs139.1.F rfl) (qs139.1.F rfl) (qs139.1.F rfl) (fun i => qs139.1.A (f := 26) (by decide) rfl) (fun i => qs139.1.A (f := 34) (by decide) rfl) (fun i => qs139.1.A (f := 35) (by decide) rfl) (fun i => qs139.1.A (f := 37) (by decide) rfl) (fun i => qs139.1.A (f := 40) (by decide) rfl) (qs139.1.FG g0 rfl) (qs139.1.FG g0 rfl) (qs139.1.FG g0 rfl) (qs139.1.FG g0 rfl) (qs139.1.FG g0 rfl) (fun i => qs139.1.AG (f := 31) g0 (by decide) rfl) (fun i => qs139.1.AG (f := 33) g0 (by decide) rfl) (fun i => qs139.1.AG (f := 34) g0 (by decide) rfl) (fun i => qs139.1.AG (f := 35) g0 (by decide) rfl) (RG.keep (c0 := 0) qs139.1 rfl rfl rfl rfl rfl rfl rfl rfl rfl rfl rfl rfl rfl rfl rfl rfl rfl rfl) qs139.2
        refine z_aload_n hC (pc := 142) 1 dX14_readAt_142 rfl rfl ?_
        obtain ⟨p54, h⟩ := h
        refine y_callVv hC (pc := 143) (As := []) (kX14_blanks l G κ s139  Ws139  p54) dmX14_blanks zf14 rOb_0 dX14_readAt_143 zw3119 rfl rfl (Nat.le_of_ble_eq_true rfl) (Nat.le_of_ble_eq_true rfl) (by omega) (by omega) (Nat.le_of_ble_eq_true rfl) (kk := fun s143 Ws143 qs143 => ?_)
        have h := h s143 Ws143 (rNMp.keep qs143.1 rfl rfl rfl rfl rfl) (TPRp.keep qs143.1 rfl rfl rfl) (WNp.keep qs143.1 rfl rfl rfl rfl rfl) (PNp.keep qs143.1 rfl rfl rfl rfl rfl) (CCp.keep qs143.1 rfl rfl rfl rfl rfl rfl rfl) (qs143.1.R rfl) (qs143.1.F rfl) (qs143.1.F rfl) (qs143.1.F rfl) (qs143.1.F rfl) (qs143.1.F rfl) (qs143.1.F rfl) (qs143.1.F rfl) (qs143.1.F rfl) (qs143.1.F rfl) (qs143.1.F rfl) (qs143.1.F rfl) (fun i => qs143.1.A (f := 26) (by decide) rfl) (fun i => qs143.1.A (f := 34) (by decide) rfl) (fun i => qs143.1.A (f := 35) (by decide) rfl) (fun i => qs143.1.A (f := 37) (by decide) rfl) (fun i => qs143.1.A (f := 40) (by decide) rfl) (qs143.1.FG g0 rfl) (qs143.1.FG g0 rfl) (qs143.1.FG g0 rfl) (qs143.1.FG g0 rfl) (qs143.1.FG g0 rfl) (fun i => qs143.1.AG (f := 31) g0 (by decide) rfl) (fun i => qs143.1.AG (f := 33) g0 (by decide) rfl) (fun i => qs143.1.AG (f := 34) g0 (by decide) rfl) (fun i => qs143.1.AG (f := 35) g0 (by decide) rfl) (fz_keep qs143.1 rfl) (RG.keep (c0 := 0) qs143.1 rfl rfl rfl rfl rfl rfl rfl rfl rfl rfl rfl rfl rfl rfl rfl rfl rfl rfl) qs143.2
        refine z_aload_n hC (pc := 146) 1 dX14_readAt_146 rfl rfl ?_
        refine y_get hC (pc := 147) zf14 rOb_0 10 (v := iv (rF s143 0 10)) dX14_readAt_147 zw2478 (rv_i (Or.inl rfl) rfl) (kk := ?_)
        have h := h (Ws143.f _ _)
        have j191 : ∀ (s191 : rS) (y191_3 : Int), rWF s191 → rng y191_3 → rKeep 0x2c0a0001c00 0x4100001280 0x13c00000000 0x3ee0000d7f 0 σ s191 → inv_X14_readAt_191 σ x1 x2 gg g L s191 y191_3 → zS X G 6 (rW G κ s191) [(0, .ref (κ 0)), (1, iv x1), (3, iv y191_3)] 0 0 191 [] := by
          intro s191 y191_3 Ws191 hy191_3 kJ hI
          have h := h_191  s191 y191_3 Ws191 hy191_3 (TPRp.keep kJ rfl rfl rfl) (CCp.keep kJ rfl rfl rfl rfl rfl rfl rfl) (kJ.R rfl) (kJ.F rfl) (kJ.F rfl) (kJ.F rfl) (kJ.F rfl) (kJ.F rfl) (kJ.F rfl) (fun i => kJ.A (f := 26) (by decide) rfl) hI
          refine z_aload_n hC (pc := 191) 0 dX14_readAt_191 rfl rfl ?_
          obtain ⟨p55, h⟩ := h
          refine y_callVi hC (pc := 192) (As := []) (kX14_tagName l G κ s191  Ws191  p55) dmX14_tagName zf14 rOb_0 dX14_readAt_192 zw3166 rfl rfl (Nat.le_of_ble_eq_true rfl) (Nat.le_of_ble_eq_true rfl) (by omega) (by omega) (Nat.le_of_ble_eq_true rfl) (kk := fun v192 s192 hv192 Ws192 qs192 => ?_)
          have h := h v192 s192 hv192 Ws192 (TPRp.keep qs192.1 rfl rfl rfl) (WNp.keep qs192.1 rfl rfl rfl rfl rfl) (PNp.keep qs192.1 rfl rfl rfl rfl rfl) (CCp.keep qs192.1 rfl rfl rfl rfl rfl rfl rfl) (qs192.1.R rfl) (qs192.1.F rfl) (qs192.1.F rfl) (qs192.1.F rfl) (qs192.1.F rfl) (qs192.1.F rfl) (qs192.1.F rfl) (qs192.1.F rfl) (qs192.1.F rfl) (qs192.1.F rfl) (fun i => qs192.1.A (f := 26) (by decide) rfl) (fun i => qs192.1.A (f := 34) (by decide) rfl) (fun i => qs192.1.A (f := 35) (by decide) rfl) (fun i => qs192.1.A (f := 37) (by decide) rfl) (fun i => qs192.1.A (f := 40) (by decide) rfl) (qs192.1.FG g0 rfl) (qs192.1.FG g0 rfl) (qs192.1.FG g0 rfl) (fun i => qs192.1.AG (f := 31) g0 (by decide) rfl) (fun i => qs192.1.AG (f := 33) g0 (by decide) rfl) (fun i => qs192.1.AG (f := 34) g0 (by decide) rfl) (fun i => qs192.1.AG (f := 35) g0 (by decide) rfl) (RG.keep (c0 := 0) qs192.1 rfl rfl rfl rfl rfl rfl rfl rfl rfl rfl rfl rfl rfl rfl rfl rfl rfl rfl) qs192.2
          refine z_istore hC (pc := 195) (lv' := [(4, iv v192), (0, .ref (κ 0)), (1, iv x1), (3, iv y191_3)]) dX14_readAt_195 (by decide) rfl ?_
          refine z_aload_n hC (pc := 197) 1 dX14_readAt_197 rfl rfl ?_
          refine y_get hC (pc := 198) zf14 rOb_0 10 (v := iv (rF s192 0 10)) dX14_readAt_198 zw2478 (rv_i (Or.inl rfl) rfl) (kk := ?_)
          have h := h (Ws192.f _ _)
          have j227 : ∀ (s227 : rS) (y227_4 : Int), rWF s227 → rng y227_4 → rKeep 0x2c0a0001c00 0x4100001280 0x13c00000000 0x3ee0000d7f 0 σ s227 → inv_X14_readAt_227 σ x1 x2 gg g L s227 y227_4 → zS X G 6 (rW G κ s227) [(0, .ref (κ 0)), (1, iv x1), (4, iv y227_4)] 0 0 227 [] := by
            intro s227 y227_4 Ws227 hy227_4 kJ hI
            have h := h_227  s227 y227_4 Ws227 hy227_4 (TPRp.keep kJ rfl rfl rfl) (CCp.keep kJ rfl rfl rfl rfl rfl rfl rfl) (kJ.R rfl) (kJ.F rfl) (kJ.F rfl) (kJ.F rfl) (kJ.F rfl) (kJ.F rfl) (kJ.F rfl) (fun i => kJ.A (f := 26) (by decide) rfl) hI
            refine z_aload_n hC (pc := 227) 0 dX14_readAt_227 rfl rfl ?_
            refine y_get hC (pc := 228) zf14 rOb_0 10 (v := iv (rF s227 0 10)) dX14_readAt_228 zw2478 (rv_i (Or.inl rfl) rfl) (kk := ?_)
            have h := h (Ws227.f _ _)
            obtain ⟨hT, hF⟩ := h
            refine y_if_eq hC (pc := 231) 235 (Ws227.f _ _) dX14_readAt_231 (by decide) (fun c => ?_) (fun c => ?_)
            · have h := hT c
              refine z_aload_n hC (pc := 235) 0 dX14_readAt_235 rfl rfl ?_
              refine z_bipush hC (pc := 236) (v := Int32.ofInt 7) dX14_readAt_236 (by decide) ?_
              refine z_iload hC (pc := 238) 2 dX14_readAt_238 rfl ?_
              refine z_iconst hC (pc := 240) (v := Int32.ofInt 0) dX14_readAt_240 (by decide) ?_
              refine z_iload_n hC (pc := 241) 1 dX14_readAt_241 rfl rfl ?_
              obtain ⟨p56, h⟩ := h
              refine y_callVi hC (pc := 242) (As := [iv 7, iv y227_4, iv 0, iv x1]) (kX14_node_t l G κ s227 7 y227_4 0 x1 gg Ws227 (r_lit rfl) hy227_4 (r_lit rfl) hx1 p56) dmX14_node zf14 rOb_0 dX14_readAt_242 zw3170 rfl rfl (Nat.le_of_ble_eq_true rfl) (Nat.le_of_ble_eq_true rfl) (by omega) (by omega) (Nat.le_of_ble_eq_true rfl) (kk := fun v242 s242 hv242 Ws242 qs242 => ?_)
              have h := h v242 s242 hv242 Ws242 (rNMp.keep qs242.1 rfl rfl rfl rfl rfl) (TPRp.keep qs242.1 rfl rfl rfl) (WNp.keep qs242.1 rfl rfl rfl rfl rfl) (CCp.keep qs242.1 rfl rfl rfl rfl rfl rfl rfl) (qs242.1.R rfl) (qs242.1.F rfl) (qs242.1.F rfl) (qs242.1.F rfl) (qs242.1.F rfl) (qs242.1.F rfl) (qs242.1.F rfl) (qs242.1.F rfl) (qs242.1.F rfl) (qs242.1.F rfl) (qs242.1.F rfl) (qs242.1.F rfl) (qs242.1.F rfl) (fun i => qs242.1.A (f := 26) (by decide) rfl) (fun i => qs242.1.A (f := 34) (by decide) rfl) (fun i => qs242.1.A (f := 35) (by decide) rfl) (fun i => qs242.1.A (f := 37) (by decide) rfl) (fun i => qs242.1.A (f := 40) (by decide) rfl) (qs242.1.FG g0 rfl) (qs242.1.FG g0 rfl) (qs242.1.FG g0 rfl) (qs242.1.FG g0 rfl) (fun i => qs242.1.AG (f := 31) g0 (by decide) rfl) (fun i => qs242.1.AG (f := 33) g0 (by decide) rfl) (fun i => qs242.1.AG (f := 34) g0 (by decide) rfl) (fun i => qs242.1.AG (f := 35) g0 (by decide) rfl) (fz_keep qs242.1 rfl) qs242.2
              refine z_istore hC (pc := 245) (lv' := [(5, iv v242), (0, .ref (κ 0)), (1, iv x1), (4, iv y227_4)]) dX14_readAt_245 (by decide) rfl ?_
              refine z_aload_n hC (pc := 247) 1 dX14_readAt_247 rfl rfl ?_
              refine y_get hC (pc := 248) zf14 rOb_0 7 (v := .ref (κ (rR σ 7))) dX14_readAt_248 zw2475 (rv_g rfl ((qs242.1.R rfl).trans (kJ.R rfl)) g0) (kk := ?_)
              refine y_getN hC (pc := 251) zf13 (rOb_k g0) 3 (v := .ref (κ (1000 * ((rR σ 7) + 1) + 3))) dX14_readAt_251 zw2316 (rv_c rfl) (kk := ?_)
              refine z_iload hC (pc := 254) 0 dX14_readAt_254 rfl ?_
              refine z_aload_n hC (pc := 256) 1 dX14_readAt_256 rfl rfl ?_
              refine y_get hC (pc := 257) zf14 rOb_0 33 (v := iv (rF s242 0 33)) dX14_readAt_257 zw2500 (rv_i (Or.inl rfl) rfl) (kk := ?_)
              have h := h (Ws242.f _ _)
              obtain ⟨b57, h⟩ := h
              refine y_iast hC (pc := 260) (rAr_k g0 rfl rfl) dX14_readAt_260 b57 (v := (rF s242 0 33)) (kk := ?_)
              have W58 := Ws242.sA (p := (1000 * ((rR σ 7) + 1) + 3)) (i := v242) (x := (rF s242 0 33)) (Ws242.f _ _)
              refine z_aload_n hC (pc := 261) 1 dX14_readAt_261 rfl rfl ?_
              refine z_bipush hC (pc := 262) (v := Int32.ofInt 7) dX14_readAt_262 (by decide) ?_
              refine z_iload hC (pc := 264) 0 dX14_readAt_264 rfl ?_
              refine z_aload_n hC (pc := 266) 1 dX14_readAt_266 rfl rfl ?_
              refine y_get hC (pc := 267) zf14 rOb_0 33 (v := iv (rF s242 0 33)) dX14_readAt_267 zw2500 (rv_i (Or.inl rfl) rfl) (kk := ?_)
              refine z_aload_n hC (pc := 270) 1 dX14_readAt_270 rfl rfl ?_
              refine y_get hC (pc := 271) zf14 rOb_0 41 (v := iv (rF s242 0 41)) dX14_readAt_271 zw2508 (rv_i (Or.inl rfl) rfl) (kk := ?_)
              have h := h (Ws242.f _ _)
              obtain ⟨p59, h⟩ := h
              refine y_callVv hC (pc := 274) (As := [iv 7, iv v242, iv (rF s242 0 33), iv (rF s242 0 41)]) (kX14_check_t l G κ (sT s242 (rR σ 7) 3 v242 (rF s242 0 33)) 7 v242 (rF s242 0 33) (rF s242 0 41) gg W58 (r_lit rfl) hv242 (Ws242.f _ _) (Ws242.f _ _) p59) dmX14_check zf14 rOb_0 dX14_readAt_274 zw3075 rfl rfl (Nat.le_of_ble_eq_true rfl) (Nat.le_of_ble_eq_true rfl) (by omega) (by omega) (Nat.le_of_ble_eq_true rfl) (kk := fun s274 Ws274 qs274 => ?_)
              have h := h s274 Ws274 (rNMp.keep qs274.1 rfl rfl rfl rfl rfl) (TPRp.keep qs274.1 rfl rfl rfl) (WNp.keep qs274.1 rfl rfl rfl rfl rfl) (PNp.keep qs274.1 rfl rfl rfl rfl rfl) (CCp.keep qs274.1 rfl rfl rfl rfl rfl rfl rfl) (qs274.1.R rfl) (qs274.1.F rfl) (qs274.1.F rfl) (qs274.1.F rfl) (qs274.1.F rfl) (qs274.1.F rfl) (qs274.1.F rfl) (qs274.1.F rfl) (qs274.1.F rfl) (qs274.1.F rfl) (qs274.1.F rfl) (qs274.1.F rfl) (qs274.1.F rfl) (fun i => qs274.1.A (f := 26) (by decide) rfl) (fun i => qs274.1.A (f := 34) (by decide) rfl) (fun i => qs274.1.A (f := 35) (by decide) rfl) (fun i => qs274.1.A (f := 37) (by decide) rfl) (fun i => qs274.1.A (f := 40) (by decide) rfl) (qs274.1.FG g0 rfl) (qs274.1.FG g0 rfl) (qs274.1.FG g0 rfl) (qs274.1.FG g0 rfl) (fun i => qs274.1.AG (f := 31) g0 (by decide) rfl) (fz_keep qs274.1 rfl) qs274.2
              refine z_aload_n hC (pc := 277) 1 dX14_readAt_277 rfl rfl ?_
              refine z_bipush hC (pc := 278) (v := Int32.ofInt 40) dX14_readAt_278 (by decide) ?_
              obtain ⟨p60, h⟩ := h
              refine y_callVv hC (pc := 280) (As := [iv 40]) (kX14_need l G κ s274 40 Ws274 (r_lit rfl) p60) dmX14_need zf14 rOb_0 dX14_readAt_280 zw3136 rfl rfl (Nat.le_of_ble_eq_true rfl) (Nat.le_of_ble_eq_true rfl) (by omega) (by omega) (Nat.le_of_ble_eq_true rfl) (kk := fun s280 Ws280 qs280 => ?_)
              have h := h s280 Ws280 (rNMp.keep qs280.1 rfl rfl rfl rfl rfl) (TPRp.keep qs280.1 rfl rfl rfl) (WNp.keep qs280.1 rfl rfl rfl rfl rfl) (PNp.keep qs280.1 rfl rfl rfl rfl rfl) (CCp.keep qs280.1 rfl rfl rfl rfl rfl rfl rfl) (qs280.1.R rfl) (qs280.1.F rfl) (qs280.1.F rfl) (qs280.1.F rfl) (qs280.1.F rfl) (qs280.1.F rfl) (qs280.1.F rfl) (qs280.1.F rfl) (qs280.1.F rfl) (qs280.1.F rfl) (qs280.1.F rfl) (fun i => qs280.1.A (f := 26) (by decide) rfl) (fun i => qs280.1.A (f := 34) (by decide) rfl) (fun i => qs280.1.A (f := 35) (by decide) rfl) (fun i => qs280.1.A (f := 37) (by decide) rfl) (fun i => qs280.1.A (f := 40) (by decide) rfl) (qs280.1.FG g0 rfl) (qs280.1.FG g0 rfl) (qs280.1.FG g0 rfl) (qs280.1.FG g0 rfl) (qs280.1.FG g0 rfl) (fun i => qs280.1.AG (f := 31) g0 (by decide) rfl) (fun i => qs280.1.AG (f := 33) g0 (by decide) rfl) (fun i => qs280.1.AG (f := 34) g0 (by decide) rfl) (fun i => qs280.1.AG (f := 35) g0 (by decide) rfl) (RG.keep (c0 := 0) qs280.1 rfl rfl rfl rfl rfl rfl rfl rfl rfl rfl rfl rfl rfl rfl rfl rfl rfl rfl) qs280.2
              refine z_aload_n hC (pc := 283) 1 dX14_readAt_283 rfl rfl ?_
              refine z_bipush hC (pc := 284) (v := Int32.ofInt 41) dX14_readAt_284 (by decide) ?_
              obtain ⟨p61, h⟩ := h
              refine y_callVv hC (pc := 286) (As := [iv 41]) (kX14_need l G κ s280 41 Ws280 (r_lit rfl) p61) dmX14_need zf14 rOb_0 dX14_readAt_286 zw3136 rfl rfl (Nat.le_of_ble_eq_true rfl) (Nat.le_of_ble_eq_true rfl) (by omega) (by omega) (Nat.le_of_ble_eq_true rfl) (kk := fun s286 Ws286 qs286 => ?_)
              have h := h s286 Ws286 (rNMp.keep qs286.1 rfl rfl rfl rfl rfl) (TPRp.keep qs286.1 rfl rfl rfl) (WNp.keep qs286.1 rfl rfl rfl rfl rfl) (PNp.keep qs286.1 rfl rfl rfl rfl rfl) (CCp.keep qs286.1 rfl rfl rfl rfl rfl rfl rfl) (qs286.1.R rfl) (qs286.1.F rfl) (qs286.1.F rfl) (qs286.1.F rfl) (qs286.1.F rfl) (qs286.1.F rfl) (qs286.1.F rfl) (qs286.1.F rfl) (qs286.1.F rfl) (qs286.1.F rfl) (qs286.1.F rfl) (fun i => qs286.1.A (f := 26) (by decide) rfl) (fun i => qs286.1.A (f := 34) (by decide) rfl) (fun i => qs286.1.A (f := 35) (by decide) rfl) (fun i => qs286.1.A (f := 37) (by decide) rfl) (fun i => qs286.1.A (f := 40) (by decide) rfl) (qs286.1.FG g0 rfl) (qs286.1.FG g0 rfl) (qs286.1.FG g0 rfl) (qs286.1.FG g0 rfl) (qs286.1.FG g0 rfl) (fun i => qs286.1.AG (f := 31) g0 (by decide) rfl) (fun i => qs286.1.AG (f := 33) g0 (by decide) rfl) (fun i => qs286.1.AG (f := 34) g0 (by decide) rfl) (fun i => qs286.1.AG (f := 35) g0 (by decide) rfl) (RG.keep (c0 := 0) qs286.1 rfl rfl rfl rfl rfl rfl rfl rfl rfl rfl rfl rfl rfl rfl rfl rfl rfl rfl) qs286.2
              refine z_aload_n hC (pc := 289) 1 dX14_readAt_289 rfl rfl ?_
              refine z_aload_n hC (pc := 290) 1 dX14_readAt_290 rfl rfl ?_
              refine y_get hC (pc := 291) zf14 rOb_0 19 (v := iv (rF s286 0 19)) dX14_readAt_291 zw2486 (rv_i (Or.inl rfl) rfl) (kk := ?_)
              have h := h (Ws286.f _ _)
              obtain ⟨p62, h⟩ := h
              refine y_callVv hC (pc := 294) (As := [iv (rF s286 0 19)]) (kX14_need l G κ s286 (rF s286 0 19) Ws286 (Ws286.f _ _) p62) dmX14_need zf14 rOb_0 dX14_readAt_294 zw3136 rfl rfl (Nat.le_of_ble_eq_true rfl) (Nat.le_of_ble_eq_true rfl) (by omega) (by omega) (Nat.le_of_ble_eq_true rfl) (kk := fun s294 Ws294 qs294 => ?_)
              have h := h s294 Ws294 (rNMp.keep qs294.1 rfl rfl rfl rfl rfl) (TPRp.keep qs294.1 rfl rfl rfl) (WNp.keep qs294.1 rfl rfl rfl rfl rfl) (PNp.keep qs294.1 rfl rfl rfl rfl rfl) (CCp.keep qs294.1 rfl rfl rfl rfl rfl rfl rfl) (qs294.1.R rfl) (qs294.1.F rfl) (qs294.1.F rfl) (qs294.1.F rfl) (qs294.1.F rfl) (qs294.1.F rfl) (qs294.1.F rfl) (qs294.1.F rfl) (qs294.1.F rfl) (qs294.1.F rfl) (qs294.1.F rfl) (fun i => qs294.1.A (f := 26) (by decide) rfl) (fun i => qs294.1.A (f := 34) (by decide) rfl) (fun i => qs294.1.A (f := 35) (by decide) rfl) (fun i => qs294.1.A (f := 37) (by decide) rfl) (fun i => qs294.1.A (f := 40) (by decide) rfl) (qs294.1.FG g0 rfl) (qs294.1.FG g0 rfl) (qs294.1.FG g0 rfl) (qs294.1.FG g0 rfl) (qs294.1.FG g0 rfl) (fun i => qs294.1.AG (f := 31) g0 (by decide) rfl) (fun i => qs294.1.AG (f := 33) g0 (by decide) rfl) (fun i => qs294.1.AG (f := 34) g0 (by decide) rfl) (fun i => qs294.1.AG (f := 35) g0 (by decide) rfl) (RG.keep (c0 := 0) qs294.1 rfl rfl rfl rfl rfl rfl rfl rfl rfl rfl rfl rfl rfl rfl rfl rfl rfl rfl) qs294.2
              refine z_aload_n hC (pc := 297) 1 dX14_readAt_297 rfl rfl ?_
              refine z_bipush hC (pc := 298) (v := Int32.ofInt 7) dX14_readAt_298 (by decide) ?_
              refine z_iload hC (pc := 300) 0 dX14_readAt_300 rfl ?_
              refine z_iload_n hC (pc := 302) 2 dX14_readAt_302 rfl rfl ?_
              obtain ⟨p63, h⟩ := h
              refine y_callVv hC (pc := 303) (As := [iv 7, iv v242, iv x1]) (kX14_note_t l G κ s294 7 v242 x1 gg Ws294 (r_lit rfl) hv242 hx1 p63) dmX14_note zf14 rOb_0 dX14_readAt_303 zw3111 rfl rfl (Nat.le_of_ble_eq_true rfl) (Nat.le_of_ble_eq_true rfl) (by omega) (by omega) (Nat.le_of_ble_eq_true rfl) (kk := fun s303 Ws303 qs303 => ?_)
              have h := h s303 Ws303 (rNMp.keep qs303.1 rfl rfl rfl rfl rfl) (TPRp.keep qs303.1 rfl rfl rfl) (PNp.keep qs303.1 rfl rfl rfl rfl rfl) (CCp.keep qs303.1 rfl rfl rfl rfl rfl rfl rfl) (qs303.1.R rfl) (qs303.1.F rfl) (qs303.1.F rfl) (qs303.1.F rfl) (qs303.1.F rfl) (qs303.1.F rfl) (qs303.1.F rfl) (qs303.1.F rfl) (qs303.1.F rfl) (qs303.1.F rfl) (qs303.1.F rfl) (qs303.1.F rfl) (fun i => qs303.1.A (f := 26) (by decide) rfl) (fun i => qs303.1.A (f := 40) (by decide) rfl) (qs303.1.FG g0 rfl) (qs303.1.FG g0 rfl) (qs303.1.FG g0 rfl) (qs303.1.FG g0 rfl) (qs303.1.FG g0 rfl) (fun i => qs303.1.AG (f := 31) g0 (by decide) rfl) (fun i => qs303.1.AG (f := 33) g0 (by decide) rfl) (fun i => qs303.1.AG (f := 34) g0 (by decide) rfl) (fun i => qs303.1.AG (f := 35) g0 (by decide) rfl) (fz_keep qs303.1 rfl) qs303.2
              exact y_retv hR dX14_readAt_306 Ws303 (Nat.le_of_ble_eq_true rfl) (Nat.le_of_ble_eq_true rfl) ⟨(rKeep.tr (rKeep.tr (rKeep.tr (rKeep.tr (rKeep.tr (rKeep.tr (rKeep.tr (rKeep.tr rKeep.rf kJ rfl rfl rfl rfl rfl) qs242.1 rfl rfl rfl rfl rfl) (rKeep.sAk (f := 3) g0 (by decide)) rfl rfl rfl rfl rfl) qs274.1 rfl rfl rfl rfl rfl) qs280.1 rfl rfl rfl rfl rfl) qs286.1 rfl rfl rfl rfl rfl) qs294.1 rfl rfl rfl rfl rfl) qs303.1 rfl rfl rfl rfl rfl), h⟩
            · have h := hF c
              exact y_retv hR dX14_readAt_234 Ws227 (Nat.le_of_ble_eq_true rfl) (Nat.le_of_ble_eq_true rfl) ⟨(rKeep.tr rKeep.rf kJ rfl rfl rfl rfl rfl), h⟩
          obtain ⟨hT, hF⟩ := h
          refine y_if_ne hC (pc := 201) 227 (Ws192.f _ _) dX14_readAt_201 (by decide) (fun c => ?_) (fun c => ?_)
          · have h := hT c
            refine z_lvs [1, 2, 0] rfl ?_
            exact j227 s192 v192 Ws192 hv192 (rKeep.tr (rKeep.tr rKeep.rf kJ rfl rfl rfl rfl rfl) qs192.1 rfl rfl rfl rfl rfl) h
          · have h := hF c
            refine z_aload_n hC (pc := 204) 1 dX14_readAt_204 rfl rfl ?_
            refine y_get hC (pc := 205) zf14 rOb_0 7 (v := .ref (κ (rR σ 7))) dX14_readAt_205 zw2475 (rv_g rfl ((qs192.1.R rfl).trans (kJ.R rfl)) g0) (kk := ?_)
            refine y_getN hC (pc := 208) zf13 (rOb_k g0) 17 (v := .ref (κ (1000 * ((rR σ 7) + 1) + 17))) dX14_readAt_208 zw2342 (rv_c rfl) (kk := ?_)
            refine z_aload_n hC (pc := 211) 1 dX14_readAt_211 rfl rfl ?_
            refine y_get hC (pc := 212) zf14 rOb_0 33 (v := iv (rF s192 0 33)) dX14_readAt_212 zw2500 (rv_i (Or.inl rfl) rfl) (kk := ?_)
            have h := h (Ws192.f _ _)
            obtain ⟨b64, h⟩ := h
            refine y_iald hC (pc := 215) (rAr_k g0 rfl rfl) dX14_readAt_215 b64 (v := (rA s192 (1000 * ((rR σ 7) + 1) + 17) (rF s192 0 33))) rfl (kk := ?_)
            have h := h (Ws192.a _ _)
            refine z_iload hC (pc := 216) 0 dX14_readAt_216 rfl ?_
            obtain ⟨hT, hF⟩ := h
            refine y_icmp_eq hC (pc := 218) 227 (Ws192.a _ _) hv192 dX14_readAt_218 (by decide) (fun c => ?_) (fun c => ?_)
            · have h := hT c
              refine z_lvs [1, 2, 0] rfl ?_
              exact j227 s192 v192 Ws192 hv192 (rKeep.tr (rKeep.tr rKeep.rf kJ rfl rfl rfl rfl rfl) qs192.1 rfl rfl rfl rfl rfl) h
            · have h := hF c
              refine z_aload_n hC (pc := 221) 1 dX14_readAt_221 rfl rfl ?_
              refine z_iconst hC (pc := 222) (v := Int32.ofInt 1) dX14_readAt_222 (by decide) ?_
              refine z_iload_n hC (pc := 223) 3 dX14_readAt_223 rfl rfl ?_
              obtain ⟨p65, h⟩ := h
              refine y_callVv hC (pc := 224) (As := [iv 1, iv y191_3]) (kX14_bad l G κ s192 1 y191_3 Ws192 (r_lit rfl) hy191_3 p65) dmX14_bad zf14 rOb_0 dX14_readAt_224 zw3000 rfl rfl (Nat.le_of_ble_eq_true rfl) (Nat.le_of_ble_eq_true rfl) (by omega) (by omega) (Nat.le_of_ble_eq_true rfl) (kk := fun s224 Ws224 qs224 => ?_)
              have h := h s224 Ws224 (rNMp.keep qs224.1 rfl rfl rfl rfl rfl) (TPRp.keep qs224.1 rfl rfl rfl) (WNp.keep qs224.1 rfl rfl rfl rfl rfl) (PNp.keep qs224.1 rfl rfl rfl rfl rfl) (CCp.keep qs224.1 rfl rfl rfl rfl rfl rfl rfl) (qs224.1.R rfl) (qs224.1.F rfl) (qs224.1.F rfl) (qs224.1.F rfl) (qs224.1.F rfl) (qs224.1.F rfl) (qs224.1.F rfl) (qs224.1.F rfl) (qs224.1.F rfl) (qs224.1.F rfl) (qs224.1.F rfl) (qs224.1.F rfl) (fun i => qs224.1.A (f := 26) (by decide) rfl) (fun i => qs224.1.A (f := 34) (by decide) rfl) (fun i => qs224.1.A (f := 35) (by decide) rfl) (fun i => qs224.1.A (f := 37) (by decide) rfl) (fun i => qs224.1.A (f := 40) (by decide) rfl) (qs224.1.FG g0 rfl) (qs224.1.FG g0 rfl) (qs224.1.FG g0 rfl) (qs224.1.FG g0 rfl) (qs224.1.FG g0 rfl) (fun i => qs224.1.AG (f := 31) g0 (by decide) rfl) (fun i => qs224.1.AG (f := 33) g0 (by decide) rfl) (fun i => qs224.1.AG (f := 34) g0 (by decide) rfl) (fun i => qs224.1.AG (f := 35) g0 (by decide) rfl) (RG.keep (c0 := 0) qs224.1 rfl rfl rfl rfl rfl rfl rfl rfl rfl rfl rfl rfl rfl rfl rfl rfl rfl rfl) qs224.2
              refine z_lvs [1, 2, 0] rfl ?_
              exact j227 s224 v192 Ws224 hv192 (rKeep.tr (rKeep.tr (rKeep.tr rKeep.rf kJ rfl rfl rfl rfl rfl) qs192.1 rfl rfl rfl rfl rfl) qs224.1 rfl rfl rfl rfl rfl) h
        obtain ⟨hT, hF⟩ := h
        refine y_if_ne hC (pc := 150) 191 (Ws143.f _ _) dX14_readAt_150 (by decide) (fun c => ?_) (fun c => ?_)
        · have h := hT c
          refine z_lvs [1, 2, 0] rfl ?_
          exact j191 s143 v1 Ws143 hv1 (rKeep.tr (rKeep.tr (rKeep.tr (rKeep.tr (rKeep.tr rKeep.rf (rKeep.sF0 (f := 29)) rfl rfl rfl rfl rfl) qs16.1 rfl rfl rfl rfl rfl) (rKeep.sF0 (f := 29)) rfl rfl rfl rfl rfl) qs139.1 rfl rfl rfl rfl rfl) qs143.1 rfl rfl rfl rfl rfl) h
        · have h := hF c
          refine z_aload_n hC (pc := 153) 1 dX14_readAt_153 rfl rfl ?_
          obtain ⟨p66, h⟩ := h
          refine y_callVi hC (pc := 154) (As := []) (kX14_isReserved l G κ s143  Ws143  p66) dmX14_isReserved zf14 rOb_0 dX14_readAt_154 zw3141 rfl rfl (Nat.le_of_ble_eq_true rfl) (Nat.le_of_ble_eq_true rfl) (by omega) (by omega) (Nat.le_of_ble_eq_true rfl) (kk := fun v154 s154 hv154 Ws154 qs154 => ?_)
          obtain ⟨es154, qs154⟩ := qs154
          have es154 := es154.symm
          subst es154
          have h := h v154 hv154 qs154
          obtain ⟨hT, hF⟩ := h
          refine y_if_ne hC (pc := 157) 191 hv154 dX14_readAt_157 (by decide) (fun c => ?_) (fun c => ?_)
          · have h := hT c
            refine z_lvs [1, 2, 0] rfl ?_
            exact j191 s143 v1 Ws143 hv1 (rKeep.tr (rKeep.tr (rKeep.tr (rKeep.tr (rKeep.tr rKeep.rf (rKeep.sF0 (f := 29)) rfl rfl rfl rfl rfl) qs16.1 rfl rfl rfl rfl rfl) (rKeep.sF0 (f := 29)) rfl rfl rfl rfl rfl) qs139.1 rfl rfl rfl rfl rfl) qs143.1 rfl rfl rfl rfl rfl) h
          · have h := hF c
            refine z_aload_n hC (pc := 160) 1 dX14_readAt_160 rfl rfl ?_
            refine y_get hC (pc := 161) zf14 rOb_0 26 (v := .ref (κ 1026)) dX14_readAt_161 zw2493 (rv_c rfl) (kk := ?_)
            refine z_aload_n hC (pc := 164) 1 dX14_readAt_164 rfl rfl ?_
            refine y_get hC (pc := 165) zf14 rOb_0 28 (v := iv (rF s143 0 28)) dX14_readAt_165 zw2495 (rv_i (Or.inl rfl) rfl) (kk := ?_)
            have h := h (Ws143.f _ _)
            refine z_aload_n hC (pc := 168) 1 dX14_readAt_168 rfl rfl ?_
            refine y_get hC (pc := 169) zf14 rOb_0 29 (v := iv (rF s143 0 29)) dX14_readAt_169 zw2496 (rv_i (Or.inl rfl) rfl) (kk := ?_)
            have h := h (Ws143.f _ _)
            obtain ⟨p67, h⟩ := h
            refine y_callSi hC (pc := 172) (As := [.ref (κ 1026), iv (rF s143 0 28), iv (rF s143 0 29)]) (kX14_wordEnd_t l G κ s143 1026 4001 (rF s143 0 28) (rF s143 0 29) Ws143 (rAr_m rfl) (Ws143.f _ _) (Ws143.f _ _) p67) dmX14_wordEnd dX14_readAt_172 zw3009 rfl rfl (Nat.le_of_ble_eq_true rfl) (Nat.le_of_ble_eq_true rfl) (by omega) (by omega) (Nat.le_of_ble_eq_true rfl) (kk := fun v172 s172 hv172 Ws172 qs172 => ?_)
            obtain ⟨es172, qs172⟩ := qs172
            have es172 := es172.symm
            subst es172
            have h := h v172 hv172 qs172
            refine z_aload_n hC (pc := 175) 1 dX14_readAt_175 rfl rfl ?_
            refine y_get hC (pc := 176) zf14 rOb_0 29 (v := iv (rF s143 0 29)) dX14_readAt_176 zw2496 (rv_i (Or.inl rfl) rfl) (kk := ?_)
            refine y_isub hC (pc := 179) (v := (v172 - (rF s143 0 29))) dX14_readAt_179 rfl ?_
            refine z_bipush hC (pc := 180) (v := Int32.ofInt 16) dX14_readAt_180 (by decide) ?_
            obtain ⟨r68, h⟩ := h
            obtain ⟨hT, hF⟩ := h
            refine y_icmp_le hC (pc := 182) 191 r68 (r_lit rfl) dX14_readAt_182 (by decide) (fun c => ?_) (fun c => ?_)
            · have h := hT c
              refine z_lvs [1, 2, 0] rfl ?_
              exact j191 s143 v1 Ws143 hv1 (rKeep.tr (rKeep.tr (rKeep.tr (rKeep.tr (rKeep.tr rKeep.rf (rKeep.sF0 (f := 29)) rfl rfl rfl rfl rfl) qs16.1 rfl rfl rfl rfl rfl) (rKeep.sF0 (f := 29)) rfl rfl rfl rfl rfl) qs139.1 rfl rfl rfl rfl rfl) qs143.1 rfl rfl rfl rfl rfl) h
            · have h := hF c
              refine z_aload_n hC (pc := 185) 1 dX14_readAt_185 rfl rfl ?_
              refine z_iconst hC (pc := 186) (v := Int32.ofInt 1) dX14_readAt_186 (by decide) ?_
              refine z_iload_n hC (pc := 187) 0 dX14_readAt_187 rfl rfl ?_
              obtain ⟨p69, h⟩ := h
              refine y_callVv hC (pc := 188) (As := [iv 1, iv v1]) (kX14_bad l G κ s143 1 v1 Ws143 (r_lit rfl) hv1 p69) dmX14_bad zf14 rOb_0 dX14_readAt_188 zw3000 rfl rfl (Nat.le_of_ble_eq_true rfl) (Nat.le_of_ble_eq_true rfl) (by omega) (by omega) (Nat.le_of_ble_eq_true rfl) (kk := fun s188 Ws188 qs188 => ?_)
              have h := h s188 Ws188 (rNMp.keep qs188.1 rfl rfl rfl rfl rfl) (TPRp.keep qs188.1 rfl rfl rfl) (WNp.keep qs188.1 rfl rfl rfl rfl rfl) (PNp.keep qs188.1 rfl rfl rfl rfl rfl) (CCp.keep qs188.1 rfl rfl rfl rfl rfl rfl rfl) (qs188.1.R rfl) (qs188.1.F rfl) (qs188.1.F rfl) (qs188.1.F rfl) (qs188.1.F rfl) (qs188.1.F rfl) (qs188.1.F rfl) (qs188.1.F rfl) (qs188.1.F rfl) (qs188.1.F rfl) (qs188.1.F rfl) (qs188.1.F rfl) (fun i => qs188.1.A (f := 26) (by decide) rfl) (fun i => qs188.1.A (f := 34) (by decide) rfl) (fun i => qs188.1.A (f := 35) (by decide) rfl) (fun i => qs188.1.A (f := 37) (by decide) rfl) (fun i => qs188.1.A (f := 40) (by decide) rfl) (qs188.1.FG g0 rfl) (qs188.1.FG g0 rfl) (qs188.1.FG g0 rfl) (qs188.1.FG g0 rfl) (qs188.1.FG g0 rfl) (fun i => qs188.1.AG (f := 31) g0 (by decide) rfl) (fun i => qs188.1.AG (f := 33) g0 (by decide) rfl) (fun i => qs188.1.AG (f := 34) g0 (by decide) rfl) (fun i => qs188.1.AG (f := 35) g0 (by decide) rfl) (RG.keep (c0 := 0) qs188.1 rfl rfl rfl rfl rfl rfl rfl rfl rfl rfl rfl rfl rfl rfl rfl rfl rfl rfl) qs188.2
              refine z_lvs [1, 2, 0] rfl ?_
              exact j191 s188 v1 Ws188 hv1 (rKeep.tr (rKeep.tr (rKeep.tr (rKeep.tr (rKeep.tr (rKeep.tr rKeep.rf (rKeep.sF0 (f := 29)) rfl rfl rfl rfl rfl) qs16.1 rfl rfl rfl rfl rfl) (rKeep.sF0 (f := 29)) rfl rfl rfl rfl rfl) qs139.1 rfl rfl rfl rfl rfl) qs143.1 rfl rfl rfl rfl rfl) qs188.1 rfl rfl rfl rfl rfl) h
      · have h := hF c
        refine z_aload_n hC (pc := 120) 1 dX14_readAt_120 rfl rfl ?_
        refine z_iconst hC (pc := 121) (v := Int32.ofInt 1) dX14_readAt_121 (by decide) ?_
        refine z_iload_n hC (pc := 122) 0 dX14_readAt_122 rfl rfl ?_
        obtain ⟨p70, h⟩ := h
        refine y_callVv hC (pc := 123) (As := [iv 1, iv v1]) (kX14_bad l G κ s16 1 v1 Ws16 (r_lit rfl) hv1 p70) dmX14_bad zf14 rOb_0 dX14_readAt_123 zw3000 rfl rfl (Nat.le_of_ble_eq_true rfl) (Nat.le_of_ble_eq_true rfl) (by omega) (by omega) (Nat.le_of_ble_eq_true rfl) (kk := fun s123 Ws123 qs123 => ?_)
        have h := h s123 Ws123 (rNMp.keep qs123.1 rfl rfl rfl rfl rfl) (TPRp.keep qs123.1 rfl rfl rfl) (WNp.keep qs123.1 rfl rfl rfl rfl rfl) (PNp.keep qs123.1 rfl rfl rfl rfl rfl) (CCp.keep qs123.1 rfl rfl rfl rfl rfl rfl rfl) (qs123.1.R rfl) (qs123.1.F rfl) (qs123.1.F rfl) (qs123.1.F rfl) (qs123.1.F rfl) (qs123.1.F rfl) (qs123.1.F rfl) (qs123.1.F rfl) (qs123.1.F rfl) (qs123.1.F rfl) (qs123.1.F rfl) (qs123.1.F rfl) (fun i => qs123.1.A (f := 26) (by decide) rfl) (fun i => qs123.1.A (f := 34) (by decide) rfl) (fun i => qs123.1.A (f := 35) (by decide) rfl) (fun i => qs123.1.A (f := 37) (by decide) rfl) (fun i => qs123.1.A (f := 40) (by decide) rfl) (qs123.1.FG g0 rfl) (qs123.1.FG g0 rfl) (qs123.1.FG g0 rfl) (qs123.1.FG g0 rfl) (qs123.1.FG g0 rfl) (fun i => qs123.1.AG (f := 31) g0 (by decide) rfl) (fun i => qs123.1.AG (f := 33) g0 (by decide) rfl) (fun i => qs123.1.AG (f := 34) g0 (by decide) rfl) (fun i => qs123.1.AG (f := 35) g0 (by decide) rfl) (RG.keep (c0 := 0) qs123.1 rfl rfl rfl rfl rfl rfl rfl rfl rfl rfl rfl rfl rfl rfl rfl rfl rfl rfl) qs123.2
        refine z_aload_n hC (pc := 126) 1 dX14_readAt_126 rfl rfl ?_
        refine z_dup hC (pc := 127) dX14_readAt_127 rfl ?_
        refine y_get hC (pc := 128) zf14 rOb_0 29 (v := iv (rF s16 0 29)) dX14_readAt_128 zw2496 (rv_i (Or.inl rfl) ((qs123.1.F rfl).trans rfl)) (kk := ?_)
        have h := h (Ws16.f _ _)
        refine z_iconst hC (pc := 131) (v := Int32.ofInt 5) dX14_readAt_131 (by decide) ?_
        refine y_iadd hC (pc := 132) (v := ((rF s16 0 29) + 5)) dX14_readAt_132 rfl ?_
        obtain ⟨r71, h⟩ := h
        refine y_putI hC (pc := 133) zf14 rOb_0 29 (x := ((rF s16 0 29) + 5)) dX14_readAt_133 zw2496 (Or.inl rfl) rfl rfl (kk := ?_)
        have W72 := Ws123.sF (q := 0) (f := 29) (x := ((rF s16 0 29) + 5)) r71
        refine z_aload_n hC (pc := 136) 1 dX14_readAt_136 rfl rfl ?_
        refine z_bipush hC (pc := 137) (v := Int32.ofInt 46) dX14_readAt_137 (by decide) ?_
        obtain ⟨p73, h⟩ := h
        refine y_callVv hC (pc := 139) (As := [iv 46]) (kX14_need l G κ (sF s123 0 29 ((rF s16 0 29) + 5)) 46 W72 (r_lit rfl) p73) dmX14_need zf14 rOb_0 dX14_readAt_139 zw3136 rfl rfl (Nat.le_of_ble_eq_true rfl) (Nat.le_of_ble_eq_true rfl) (by omega) (by omega) (Nat.le_of_ble_eq_true rfl) (kk := fun s139 Ws139 qs139 => ?_)
        have h := h s139 Ws139 (rNMp.keep qs139.1 rfl rfl rfl rfl rfl) (TPRp.keep qs139.1 rfl rfl rfl) (WNp.keep qs139.1 rfl rfl rfl rfl rfl) (PNp.keep qs139.1 rfl rfl rfl rfl rfl) (CCp.keep qs139.1 rfl rfl rfl rfl rfl rfl rfl) (qs139.1.R rfl) (qs139.1.F rfl) (qs139.1.F rfl) (qs139.1.F rfl) (qs139.1.F rfl) (qs139.1.F rfl) (qs139.1.F rfl) (qs139.1.F rfl) (qs139.1.F rfl) (qs139.1.F rfl) (qs139.1.F rfl) (fun i => qs139.1.A (f := 26) (by decide) rfl) (fun i => qs139.1.A (f := 34) (by decide) rfl) (fun i => qs139.1.A (f := 35) (by decide) rfl) (fun i => qs139.1.A (f := 37) (by decide) rfl) (fun i => qs139.1.A (f := 40) (by decide) rfl) (qs139.1.FG g0 rfl) (qs139.1.FG g0 rfl) (qs139.1.FG g0 rfl) (qs139.1.FG g0 rfl) (qs139.1.FG g0 rfl) (fun i => qs139.1.AG (f := 31) g0 (by decide) rfl) (fun i => qs139.1.AG (f := 33) g0 (by decide) rfl) (fun i => qs139.1.AG (f := 34) g0 (by decide) rfl) (fun i => qs139.1.AG (f := 35) g0 (by decide) rfl) (RG.keep (c0 := 0) qs139.1 rfl rfl rfl rfl rfl rfl rfl rfl rfl rfl rfl rfl rfl rfl rfl rfl rfl rfl) qs139.2
        refine z_aload_n hC (pc := 142) 1 dX14_readAt_142 rfl rfl ?_
        obtain ⟨p74, h⟩ := h
        refine y_callVv hC (pc := 143) (As := []) (kX14_blanks l G κ s139  Ws139  p74) dmX14_blanks zf14 rOb_0 dX14_readAt_143 zw3119 rfl rfl (Nat.le_of_ble_eq_true rfl) (Nat.le_of_ble_eq_true rfl) (by omega) (by omega) (Nat.le_of_ble_eq_true rfl) (kk := fun s143 Ws143 qs143 => ?_)
        have h := h s143 Ws143 (rNMp.keep qs143.1 rfl rfl rfl rfl rfl) (TPRp.keep qs143.1 rfl rfl rfl) (WNp.keep qs143.1 rfl rfl rfl rfl rfl) (PNp.keep qs143.1 rfl rfl rfl rfl rfl) (CCp.keep qs143.1 rfl rfl rfl rfl rfl rfl rfl) (qs143.1.R rfl) (qs143.1.F rfl) (qs143.1.F rfl) (qs143.1.F rfl) (qs143.1.F rfl) (qs143.1.F rfl) (qs143.1.F rfl) (qs143.1.F rfl) (qs143.1.F rfl) (qs143.1.F rfl) (qs143.1.F rfl) (qs143.1.F rfl) (fun i => qs143.1.A (f := 26) (by decide) rfl) (fun i => qs143.1.A (f := 34) (by decide) rfl) (fun i => qs143.1.A (f := 35) (by decide) rfl) (fun i => qs143.1.A (f := 37) (by decide) rfl) (fun i => qs143.1.A (f := 40) (by decide) rfl) (qs143.1.FG g0 rfl) (qs143.1.FG g0 rfl) (qs143.1.FG g0 rfl) (qs143.1.FG g0 rfl) (qs143.1.FG g0 rfl) (fun i => qs143.1.AG (f := 31) g0 (by decide) rfl) (fun i => qs143.1.AG (f := 33) g0 (by decide) rfl) (fun i => qs143.1.AG (f := 34) g0 (by decide) rfl) (fun i => qs143.1.AG (f := 35) g0 (by decide) rfl) (fz_keep qs143.1 rfl) (RG.keep (c0 := 0) qs143.1 rfl rfl rfl rfl rfl rfl rfl rfl rfl rfl rfl rfl rfl rfl rfl rfl rfl rfl) qs143.2
        refine z_aload_n hC (pc := 146) 1 dX14_readAt_146 rfl rfl ?_
        refine y_get hC (pc := 147) zf14 rOb_0 10 (v := iv (rF s143 0 10)) dX14_readAt_147 zw2478 (rv_i (Or.inl rfl) rfl) (kk := ?_)
        have h := h (Ws143.f _ _)
        have j191 : ∀ (s191 : rS) (y191_3 : Int), rWF s191 → rng y191_3 → rKeep 0x2c0a0001c00 0x4100001280 0x13c00000000 0x3ee0000d7f 0 σ s191 → inv_X14_readAt_191 σ x1 x2 gg g L s191 y191_3 → zS X G 6 (rW G κ s191) [(0, .ref (κ 0)), (1, iv x1), (3, iv y191_3)] 0 0 191 [] := by
          intro s191 y191_3 Ws191 hy191_3 kJ hI
          have h := h_191  s191 y191_3 Ws191 hy191_3 (TPRp.keep kJ rfl rfl rfl) (CCp.keep kJ rfl rfl rfl rfl rfl rfl rfl) (kJ.R rfl) (kJ.F rfl) (kJ.F rfl) (kJ.F rfl) (kJ.F rfl) (kJ.F rfl) (kJ.F rfl) (fun i => kJ.A (f := 26) (by decide) rfl) hI
          refine z_aload_n hC (pc := 191) 0 dX14_readAt_191 rfl rfl ?_
          obtain ⟨p75, h⟩ := h
          refine y_callVi hC (pc := 192) (As := []) (kX14_tagName l G κ s191  Ws191  p75) dmX14_tagName zf14 rOb_0 dX14_readAt_192 zw3166 rfl rfl (Nat.le_of_ble_eq_true rfl) (Nat.le_of_ble_eq_true rfl) (by omega) (by omega) (Nat.le_of_ble_eq_true rfl) (kk := fun v192 s192 hv192 Ws192 qs192 => ?_)
          have h := h v192 s192 hv192 Ws192 (TPRp.keep qs192.1 rfl rfl rfl) (WNp.keep qs192.1 rfl rfl rfl rfl rfl) (PNp.keep qs192.1 rfl rfl rfl rfl rfl) (CCp.keep qs192.1 rfl rfl rfl rfl rfl rfl rfl) (qs192.1.R rfl) (qs192.1.F rfl) (qs192.1.F rfl) (qs192.1.F rfl) (qs192.1.F rfl) (qs192.1.F rfl) (qs192.1.F rfl) (qs192.1.F rfl) (qs192.1.F rfl) (qs192.1.F rfl) (fun i => qs192.1.A (f := 26) (by decide) rfl) (fun i => qs192.1.A (f := 34) (by decide) rfl) (fun i => qs192.1.A (f := 35) (by decide) rfl) (fun i => qs192.1.A (f := 37) (by decide) rfl) (fun i => qs192.1.A (f := 40) (by decide) rfl) (qs192.1.FG g0 rfl) (qs192.1.FG g0 rfl) (qs192.1.FG g0 rfl) (fun i => qs192.1.AG (f := 31) g0 (by decide) rfl) (fun i => qs192.1.AG (f := 33) g0 (by decide) rfl) (fun i => qs192.1.AG (f := 34) g0 (by decide) rfl) (fun i => qs192.1.AG (f := 35) g0 (by decide) rfl) (RG.keep (c0 := 0) qs192.1 rfl rfl rfl rfl rfl rfl rfl rfl rfl rfl rfl rfl rfl rfl rfl rfl rfl rfl) qs192.2
          refine z_istore hC (pc := 195) (lv' := [(4, iv v192), (0, .ref (κ 0)), (1, iv x1), (3, iv y191_3)]) dX14_readAt_195 (by decide) rfl ?_
          refine z_aload_n hC (pc := 197) 1 dX14_readAt_197 rfl rfl ?_
          refine y_get hC (pc := 198) zf14 rOb_0 10 (v := iv (rF s192 0 10)) dX14_readAt_198 zw2478 (rv_i (Or.inl rfl) rfl) (kk := ?_)
          have h := h (Ws192.f _ _)
          have j227 : ∀ (s227 : rS) (y227_4 : Int), rWF s227 → rng y227_4 → rKeep 0x2c0a0001c00 0x4100001280 0x13c00000000 0x3ee0000d7f 0 σ s227 → inv_X14_readAt_227 σ x1 x2 gg g L s227 y227_4 → zS X G 6 (rW G κ s227) [(0, .ref (κ 0)), (1, iv x1), (4, iv y227_4)] 0 0 227 [] := by
            intro s227 y227_4 Ws227 hy227_4 kJ hI
            have h := h_227  s227 y227_4 Ws227 hy227_4 (TPRp.keep kJ rfl rfl rfl) (CCp.keep kJ rfl rfl rfl rfl rfl rfl rfl) (kJ.R rfl) (kJ.F rfl) (kJ.F rfl) (kJ.F rfl) (kJ.F rfl) (kJ.F rfl) (kJ.F rfl) (fun i => kJ.A (f := 26) (by decide) rfl) hI
            refine z_aload_n hC (pc := 227) 0 dX14_readAt_227 rfl rfl ?_
            refine y_get hC (pc := 228) zf14 rOb_0 10 (v := iv (rF s227 0 10)) dX14_readAt_228 zw2478 (rv_i (Or.inl rfl) rfl) (kk := ?_)
            have h := h (Ws227.f _ _)
            obtain ⟨hT, hF⟩ := h
            refine y_if_eq hC (pc := 231) 235 (Ws227.f _ _) dX14_readAt_231 (by decide) (fun c => ?_) (fun c => ?_)
            · have h := hT c
              refine z_aload_n hC (pc := 235) 0 dX14_readAt_235 rfl rfl ?_
              refine z_bipush hC (pc := 236) (v := Int32.ofInt 7) dX14_readAt_236 (by decide) ?_
              refine z_iload hC (pc := 238) 2 dX14_readAt_238 rfl ?_
              refine z_iconst hC (pc := 240) (v := Int32.ofInt 0) dX14_readAt_240 (by decide) ?_
              refine z_iload_n hC (pc := 241) 1 dX14_readAt_241 rfl rfl ?_
              obtain ⟨p76, h⟩ := h
              refine y_callVi hC (pc := 242) (As := [iv 7, iv y227_4, iv 0, iv x1]) (kX14_node_t l G κ s227 7 y227_4 0 x1 gg Ws227 (r_lit rfl) hy227_4 (r_lit rfl) hx1 p76) dmX14_node zf14 rOb_0 dX14_readAt_242 zw3170 rfl rfl (Nat.le_of_ble_eq_true rfl) (Nat.le_of_ble_eq_true rfl) (by omega) (by omega) (Nat.le_of_ble_eq_true rfl) (kk := fun v242 s242 hv242 Ws242 qs242 => ?_)
              have h := h v242 s242 hv242 Ws242 (rNMp.keep qs242.1 rfl rfl rfl rfl rfl) (TPRp.keep qs242.1 rfl rfl rfl) (WNp.keep qs242.1 rfl rfl rfl rfl rfl) (CCp.keep qs242.1 rfl rfl rfl rfl rfl rfl rfl) (qs242.1.R rfl) (qs242.1.F rfl) (qs242.1.F rfl) (qs242.1.F rfl) (qs242.1.F rfl) (qs242.1.F rfl) (qs242.1.F rfl) (qs242.1.F rfl) (qs242.1.F rfl) (qs242.1.F rfl) (qs242.1.F rfl) (qs242.1.F rfl) (qs242.1.F rfl) (fun i => qs242.1.A (f := 26) (by decide) rfl) (fun i => qs242.1.A (f := 34) (by decide) rfl) (fun i => qs242.1.A (f := 35) (by decide) rfl) (fun i => qs242.1.A (f := 37) (by decide) rfl) (fun i => qs242.1.A (f := 40) (by decide) rfl) (qs242.1.FG g0 rfl) (qs242.1.FG g0 rfl) (qs242.1.FG g0 rfl) (qs242.1.FG g0 rfl) (fun i => qs242.1.AG (f := 31) g0 (by decide) rfl) (fun i => qs242.1.AG (f := 33) g0 (by decide) rfl) (fun i => qs242.1.AG (f := 34) g0 (by decide) rfl) (fun i => qs242.1.AG (f := 35) g0 (by decide) rfl) (fz_keep qs242.1 rfl) qs242.2
              refine z_istore hC (pc := 245) (lv' := [(5, iv v242), (0, .ref (κ 0)), (1, iv x1), (4, iv y227_4)]) dX14_readAt_245 (by decide) rfl ?_
              refine z_aload_n hC (pc := 247) 1 dX14_readAt_247 rfl rfl ?_
              refine y_get hC (pc := 248) zf14 rOb_0 7 (v := .ref (κ (rR σ 7))) dX14_readAt_248 zw2475 (rv_g rfl ((qs242.1.R rfl).trans (kJ.R rfl)) g0) (kk := ?_)
              refine y_getN hC (pc := 251) zf13 (rOb_k g0) 3 (v := .ref (κ (1000 * ((rR σ 7) + 1) + 3))) dX14_readAt_251 zw2316 (rv_c rfl) (kk := ?_)
              refine z_iload hC (pc := 254) 0 dX14_readAt_254 rfl ?_
              refine z_aload_n hC (pc := 256) 1 dX14_readAt_256 rfl rfl ?_
              refine y_get hC (pc := 257) zf14 rOb_0 33 (v := iv (rF s242 0 33)) dX14_readAt_257 zw2500 (rv_i (Or.inl rfl) rfl) (kk := ?_)
              have h := h (Ws242.f _ _)
              obtain ⟨b77, h⟩ := h
              refine y_iast hC (pc := 260) (rAr_k g0 rfl rfl) dX14_readAt_260 b77 (v := (rF s242 0 33)) (kk := ?_)
              have W78 := Ws242.sA (p := (1000 * ((rR σ 7) + 1) + 3)) (i := v242) (x := (rF s242 0 33)) (Ws242.f _ _)
              refine z_aload_n hC (pc := 261) 1 dX14_readAt_261 rfl rfl ?_
              refine z_bipush hC (pc := 262) (v := Int32.ofInt 7) dX14_readAt_262 (by decide) ?_
              refine z_iload hC (pc := 264) 0 dX14_readAt_264 rfl ?_
              refine z_aload_n hC (pc := 266) 1 dX14_readAt_266 rfl rfl ?_
              refine y_get hC (pc := 267) zf14 rOb_0 33 (v := iv (rF s242 0 33)) dX14_readAt_267 zw2500 (rv_i (Or.inl rfl) rfl) (kk := ?_)
              refine z_aload_n hC (pc := 270) 1 dX14_readAt_270 rfl rfl ?_
              refine y_get hC (pc := 271) zf14 rOb_0 41 (v := iv (rF s242 0 41)) dX14_readAt_271 zw2508 (rv_i (Or.inl rfl) rfl) (kk := ?_)
              have h := h (Ws242.f _ _)
              obtain ⟨p79, h⟩ := h
              refine y_callVv hC (pc := 274) (As := [iv 7, iv v242, iv (rF s242 0 33), iv (rF s242 0 41)]) (kX14_check_t l G κ (sT s242 (rR σ 7) 3 v242 (rF s242 0 33)) 7 v242 (rF s242 0 33) (rF s242 0 41) gg W78 (r_lit rfl) hv242 (Ws242.f _ _) (Ws242.f _ _) p79) dmX14_check zf14 rOb_0 dX14_readAt_274 zw3075 rfl rfl (Nat.le_of_ble_eq_true rfl) (Nat.le_of_ble_eq_true rfl) (by omega) (by omega) (Nat.le_of_ble_eq_true rfl) (kk := fun s274 Ws274 qs274 => ?_)
              have h := h s274 Ws274 (rNMp.keep qs274.1 rfl rfl rfl rfl rfl) (TPRp.keep qs274.1 rfl rfl rfl) (WNp.keep qs274.1 rfl rfl rfl rfl rfl) (PNp.keep qs274.1 rfl rfl rfl rfl rfl) (CCp.keep qs274.1 rfl rfl rfl rfl rfl rfl rfl) (qs274.1.R rfl) (qs274.1.F rfl) (qs274.1.F rfl) (qs274.1.F rfl) (qs274.1.F rfl) (qs274.1.F rfl) (qs274.1.F rfl) (qs274.1.F rfl) (qs274.1.F rfl) (qs274.1.F rfl) (qs274.1.F rfl) (qs274.1.F rfl) (qs274.1.F rfl) (fun i => qs274.1.A (f := 26) (by decide) rfl) (fun i => qs274.1.A (f := 34) (by decide) rfl) (fun i => qs274.1.A (f := 35) (by decide) rfl) (fun i => qs274.1.A (f := 37) (by decide) rfl) (fun i => qs274.1.A (f := 40) (by decide) rfl) (qs274.1.FG g0 rfl) (qs274.1.FG g0 rfl) (qs274.1.FG g0 rfl) (qs274.1.FG g0 rfl) (fun i => qs274.1.AG (f := 31) g0 (by decide) rfl) (fz_keep qs274.1 rfl) qs274.2
              refine z_aload_n hC (pc := 277) 1 dX14_readAt_277 rfl rfl ?_
              refine z_bipush hC (pc := 278) (v := Int32.ofInt 40) dX14_readAt_278 (by decide) ?_
              obtain ⟨p80, h⟩ := h
              refine y_callVv hC (pc := 280) (As := [iv 40]) (kX14_need l G κ s274 40 Ws274 (r_lit rfl) p80) dmX14_need zf14 rOb_0 dX14_readAt_280 zw3136 rfl rfl (Nat.le_of_ble_eq_true rfl) (Nat.le_of_ble_eq_true rfl) (by omega) (by omega) (Nat.le_of_ble_eq_true rfl) (kk := fun s280 Ws280 qs280 => ?_)
              have h := h s280 Ws280 (rNMp.keep qs280.1 rfl rfl rfl rfl rfl) (TPRp.keep qs280.1 rfl rfl rfl) (WNp.keep qs280.1 rfl rfl rfl rfl rfl) (PNp.keep qs280.1 rfl rfl rfl rfl rfl) (CCp.keep qs280.1 rfl rfl rfl rfl rfl rfl rfl) (qs280.1.R rfl) (qs280.1.F rfl) (qs280.1.F rfl) (qs280.1.F rfl) (qs280.1.F rfl) (qs280.1.F rfl) (qs280.1.F rfl) (qs280.1.F rfl) (qs280.1.F rfl) (qs280.1.F rfl) (qs280.1.F rfl) (fun i => qs280.1.A (f := 26) (by decide) rfl) (fun i => qs280.1.A (f := 34) (by decide) rfl) (fun i => qs280.1.A (f := 35) (by decide) rfl) (fun i => qs280.1.A (f := 37) (by decide) rfl) (fun i => qs280.1.A (f := 40) (by decide) rfl) (qs280.1.FG g0 rfl) (qs280.1.FG g0 rfl) (qs280.1.FG g0 rfl) (qs280.1.FG g0 rfl) (qs280.1.FG g0 rfl) (fun i => qs280.1.AG (f := 31) g0 (by decide) rfl) (fun i => qs280.1.AG (f := 33) g0 (by decide) rfl) (fun i => qs280.1.AG (f := 34) g0 (by decide) rfl) (fun i => qs280.1.AG (f := 35) g0 (by decide) rfl) (RG.keep (c0 := 0) qs280.1 rfl rfl rfl rfl rfl rfl rfl rfl rfl rfl rfl rfl rfl rfl rfl rfl rfl rfl) qs280.2
              refine z_aload_n hC (pc := 283) 1 dX14_readAt_283 rfl rfl ?_
              refine z_bipush hC (pc := 284) (v := Int32.ofInt 41) dX14_readAt_284 (by decide) ?_
              obtain ⟨p81, h⟩ := h
              refine y_callVv hC (pc := 286) (As := [iv 41]) (kX14_need l G κ s280 41 Ws280 (r_lit rfl) p81) dmX14_need zf14 rOb_0 dX14_readAt_286 zw3136 rfl rfl (Nat.le_of_ble_eq_true rfl) (Nat.le_of_ble_eq_true rfl) (by omega) (by omega) (Nat.le_of_ble_eq_true rfl) (kk := fun s286 Ws286 qs286 => ?_)
              have h := h s286 Ws286 (rNMp.keep qs286.1 rfl rfl rfl rfl rfl) (TPRp.keep qs286.1 rfl rfl rfl) (WNp.keep qs286.1 rfl rfl rfl rfl rfl) (PNp.keep qs286.1 rfl rfl rfl rfl rfl) (CCp.keep qs286.1 rfl rfl rfl rfl rfl rfl rfl) (qs286.1.R rfl) (qs286.1.F rfl) (qs286.1.F rfl) (qs286.1.F rfl) (qs286.1.F rfl) (qs286.1.F rfl) (qs286.1.F rfl) (qs286.1.F rfl) (qs286.1.F rfl) (qs286.1.F rfl) (qs286.1.F rfl) (fun i => qs286.1.A (f := 26) (by decide) rfl) (fun i => qs286.1.A (f := 34) (by decide) rfl) (fun i => qs286.1.A (f := 35) (by decide) rfl) (fun i => qs286.1.A (f := 37) (by decide) rfl) (fun i => qs286.1.A (f := 40) (by decide) rfl) (qs286.1.FG g0 rfl) (qs286.1.FG g0 rfl) (qs286.1.FG g0 rfl) (qs286.1.FG g0 rfl) (qs286.1.FG g0 rfl) (fun i => qs286.1.AG (f := 31) g0 (by decide) rfl) (fun i => qs286.1.AG (f := 33) g0 (by decide) rfl) (fun i => qs286.1.AG (f := 34) g0 (by decide) rfl) (fun i => qs286.1.AG (f := 35) g0 (by decide) rfl) (RG.keep (c0 := 0) qs286.1 rfl rfl rfl rfl rfl rfl rfl rfl rfl rfl rfl rfl rfl rfl rfl rfl rfl rfl) qs286.2
              refine z_aload_n hC (pc := 289) 1 dX14_readAt_289 rfl rfl ?_
              refine z_aload_n hC (pc := 290) 1 dX14_readAt_290 rfl rfl ?_
              refine y_get hC (pc := 291) zf14 rOb_0 19 (v := iv (rF s286 0 19)) dX14_readAt_291 zw2486 (rv_i (Or.inl rfl) rfl) (kk := ?_)
              have h := h (Ws286.f _ _)
              obtain ⟨p82, h⟩ := h
              refine y_callVv hC (pc := 294) (As := [iv (rF s286 0 19)]) (kX14_need l G κ s286 (rF s286 0 19) Ws286 (Ws286.f _ _) p82) dmX14_need zf14 rOb_0 dX14_readAt_294 zw3136 rfl rfl (Nat.le_of_ble_eq_true rfl) (Nat.le_of_ble_eq_true rfl) (by omega) (by omega) (Nat.le_of_ble_eq_true rfl) (kk := fun s294 Ws294 qs294 => ?_)
              have h := h s294 Ws294 (rNMp.keep qs294.1 rfl rfl rfl rfl rfl) (TPRp.keep qs294.1 rfl rfl rfl) (WNp.keep qs294.1 rfl rfl rfl rfl rfl) (PNp.keep qs294.1 rfl rfl rfl rfl rfl) (CCp.keep qs294.1 rfl rfl rfl rfl rfl rfl rfl) (qs294.1.R rfl) (qs294.1.F rfl) (qs294.1.F rfl) (qs294.1.F rfl) (qs294.1.F rfl) (qs294.1.F rfl) (qs294.1.F rfl) (qs294.1.F rfl) (qs294.1.F rfl) (qs294.1.F rfl) (qs294.1.F rfl) (fun i => qs294.1.A (f := 26) (by decide) rfl) (fun i => qs294.1.A (f := 34) (by decide) rfl) (fun i => qs294.1.A (f := 35) (by decide) rfl) (fun i => qs294.1.A (f := 37) (by decide) rfl) (fun i => qs294.1.A (f := 40) (by decide) rfl) (qs294.1.FG g0 rfl) (qs294.1.FG g0 rfl) (qs294.1.FG g0 rfl) (qs294.1.FG g0 rfl) (qs294.1.FG g0 rfl) (fun i => qs294.1.AG (f := 31) g0 (by decide) rfl) (fun i => qs294.1.AG (f := 33) g0 (by decide) rfl) (fun i => qs294.1.AG (f := 34) g0 (by decide) rfl) (fun i => qs294.1.AG (f := 35) g0 (by decide) rfl) (RG.keep (c0 := 0) qs294.1 rfl rfl rfl rfl rfl rfl rfl rfl rfl rfl rfl rfl rfl rfl rfl rfl rfl rfl) qs294.2
              refine z_aload_n hC (pc := 297) 1 dX14_readAt_297 rfl rfl ?_
              refine z_bipush hC (pc := 298) (v := Int32.ofInt 7) dX14_readAt_298 (by decide) ?_
              refine z_iload hC (pc := 300) 0 dX14_readAt_300 rfl ?_
              refine z_iload_n hC (pc := 302) 2 dX14_readAt_302 rfl rfl ?_
              obtain ⟨p83, h⟩ := h
              refine y_callVv hC (pc := 303) (As := [iv 7, iv v242, iv x1]) (kX14_note_t l G κ s294 7 v242 x1 gg Ws294 (r_lit rfl) hv242 hx1 p83) dmX14_note zf14 rOb_0 dX14_readAt_303 zw3111 rfl rfl (Nat.le_of_ble_eq_true rfl) (Nat.le_of_ble_eq_true rfl) (by omega) (by omega) (Nat.le_of_ble_eq_true rfl) (kk := fun s303 Ws303 qs303 => ?_)
              have h := h s303 Ws303 (rNMp.keep qs303.1 rfl rfl rfl rfl rfl) (TPRp.keep qs303.1 rfl rfl rfl) (PNp.keep qs303.1 rfl rfl rfl rfl rfl) (CCp.keep qs303.1 rfl rfl rfl rfl rfl rfl rfl) (qs303.1.R rfl) (qs303.1.F rfl) (qs303.1.F rfl) (qs303.1.F rfl) (qs303.1.F rfl) (qs303.1.F rfl) (qs303.1.F rfl) (qs303.1.F rfl) (qs303.1.F rfl) (qs303.1.F rfl) (qs303.1.F rfl) (qs303.1.F rfl) (fun i => qs303.1.A (f := 26) (by decide) rfl) (fun i => qs303.1.A (f := 40) (by decide) rfl) (qs303.1.FG g0 rfl) (qs303.1.FG g0 rfl) (qs303.1.FG g0 rfl) (qs303.1.FG g0 rfl) (qs303.1.FG g0 rfl) (fun i => qs303.1.AG (f := 31) g0 (by decide) rfl) (fun i => qs303.1.AG (f := 33) g0 (by decide) rfl) (fun i => qs303.1.AG (f := 34) g0 (by decide) rfl) (fun i => qs303.1.AG (f := 35) g0 (by decide) rfl) (fz_keep qs303.1 rfl) qs303.2
              exact y_retv hR dX14_readAt_306 Ws303 (Nat.le_of_ble_eq_true rfl) (Nat.le_of_ble_eq_true rfl) ⟨(rKeep.tr (rKeep.tr (rKeep.tr (rKeep.tr (rKeep.tr (rKeep.tr (rKeep.tr (rKeep.tr rKeep.rf kJ rfl rfl rfl rfl rfl) qs242.1 rfl rfl rfl rfl rfl) (rKeep.sAk (f := 3) g0 (by decide)) rfl rfl rfl rfl rfl) qs274.1 rfl rfl rfl rfl rfl) qs280.1 rfl rfl rfl rfl rfl) qs286.1 rfl rfl rfl rfl rfl) qs294.1 rfl rfl rfl rfl rfl) qs303.1 rfl rfl rfl rfl rfl), h⟩
            · have h := hF c
              exact y_retv hR dX14_readAt_234 Ws227 (Nat.le_of_ble_eq_true rfl) (Nat.le_of_ble_eq_true rfl) ⟨(rKeep.tr rKeep.rf kJ rfl rfl rfl rfl rfl), h⟩
          obtain ⟨hT, hF⟩ := h
          refine y_if_ne hC (pc := 201) 227 (Ws192.f _ _) dX14_readAt_201 (by decide) (fun c => ?_) (fun c => ?_)
          · have h := hT c
            refine z_lvs [1, 2, 0] rfl ?_
            exact j227 s192 v192 Ws192 hv192 (rKeep.tr (rKeep.tr rKeep.rf kJ rfl rfl rfl rfl rfl) qs192.1 rfl rfl rfl rfl rfl) h
          · have h := hF c
            refine z_aload_n hC (pc := 204) 1 dX14_readAt_204 rfl rfl ?_
            refine y_get hC (pc := 205) zf14 rOb_0 7 (v := .ref (κ (rR σ 7))) dX14_readAt_205 zw2475 (rv_g rfl ((qs192.1.R rfl).trans (kJ.R rfl)) g0) (kk := ?_)
            refine y_getN hC (pc := 208) zf13 (rOb_k g0) 17 (v := .ref (κ (1000 * ((rR σ 7) + 1) + 17))) dX14_readAt_208 zw2342 (rv_c rfl) (kk := ?_)
            refine z_aload_n hC (pc := 211) 1 dX14_readAt_211 rfl rfl ?_
            refine y_get hC (pc := 212) zf14 rOb_0 33 (v := iv (rF s192 0 33)) dX14_readAt_212 zw2500 (rv_i (Or.inl rfl) rfl) (kk := ?_)
            have h := h (Ws192.f _ _)
            obtain ⟨b84, h⟩ := h
            refine y_iald hC (pc := 215) (rAr_k g0 rfl rfl) dX14_readAt_215 b84 (v := (rA s192 (1000 * ((rR σ 7) + 1) + 17) (rF s192 0 33))) rfl (kk := ?_)
            have h := h (Ws192.a _ _)
            refine z_iload hC (pc := 216) 0 dX14_readAt_216 rfl ?_
            obtain ⟨hT, hF⟩ := h
            refine y_icmp_eq hC (pc := 218) 227 (Ws192.a _ _) hv192 dX14_readAt_218 (by decide) (fun c => ?_) (fun c => ?_)
            · have h := hT c
              refine z_lvs [1, 2, 0] rfl ?_
              exact j227 s192 v192 Ws192 hv192 (rKeep.tr (rKeep.tr rKeep.rf kJ rfl rfl rfl rfl rfl) qs192.1 rfl rfl rfl rfl rfl) h
            · have h := hF c
              refine z_aload_n hC (pc := 221) 1 dX14_readAt_221 rfl rfl ?_
              refine z_iconst hC (pc := 222) (v := Int32.ofInt 1) dX14_readAt_222 (by decide) ?_
              refine z_iload_n hC (pc := 223) 3 dX14_readAt_223 rfl rfl ?_
              obtain ⟨p85, h⟩ := h
              refine y_callVv hC (pc := 224) (As := [iv 1, iv y191_3]) (kX14_bad l G κ s192 1 y191_3 Ws192 (r_lit rfl) hy191_3 p85) dmX14_bad zf14 rOb_0 dX14_readAt_224 zw3000 rfl rfl (Nat.le_of_ble_eq_true rfl) (Nat.le_of_ble_eq_true rfl) (by omega) (by omega) (Nat.le_of_ble_eq_true rfl) (kk := fun s224 Ws224 qs224 => ?_)
              have h := h s224 Ws224 (rNMp.keep qs224.1 rfl rfl rfl rfl rfl) (TPRp.keep qs224.1 rfl rfl rfl) (WNp.keep qs224.1 rfl rfl rfl rfl rfl) (PNp.keep qs224.1 rfl rfl rfl rfl rfl) (CCp.keep qs224.1 rfl rfl rfl rfl rfl rfl rfl) (qs224.1.R rfl) (qs224.1.F rfl) (qs224.1.F rfl) (qs224.1.F rfl) (qs224.1.F rfl) (qs224.1.F rfl) (qs224.1.F rfl) (qs224.1.F rfl) (qs224.1.F rfl) (qs224.1.F rfl) (qs224.1.F rfl) (qs224.1.F rfl) (fun i => qs224.1.A (f := 26) (by decide) rfl) (fun i => qs224.1.A (f := 34) (by decide) rfl) (fun i => qs224.1.A (f := 35) (by decide) rfl) (fun i => qs224.1.A (f := 37) (by decide) rfl) (fun i => qs224.1.A (f := 40) (by decide) rfl) (qs224.1.FG g0 rfl) (qs224.1.FG g0 rfl) (qs224.1.FG g0 rfl) (qs224.1.FG g0 rfl) (qs224.1.FG g0 rfl) (fun i => qs224.1.AG (f := 31) g0 (by decide) rfl) (fun i => qs224.1.AG (f := 33) g0 (by decide) rfl) (fun i => qs224.1.AG (f := 34) g0 (by decide) rfl) (fun i => qs224.1.AG (f := 35) g0 (by decide) rfl) (RG.keep (c0 := 0) qs224.1 rfl rfl rfl rfl rfl rfl rfl rfl rfl rfl rfl rfl rfl rfl rfl rfl rfl rfl) qs224.2
              refine z_lvs [1, 2, 0] rfl ?_
              exact j227 s224 v192 Ws224 hv192 (rKeep.tr (rKeep.tr (rKeep.tr rKeep.rf kJ rfl rfl rfl rfl rfl) qs192.1 rfl rfl rfl rfl rfl) qs224.1 rfl rfl rfl rfl rfl) h
        obtain ⟨hT, hF⟩ := h
        refine y_if_ne hC (pc := 150) 191 (Ws143.f _ _) dX14_readAt_150 (by decide) (fun c => ?_) (fun c => ?_)
        · have h := hT c
          refine z_lvs [1, 2, 0] rfl ?_
          exact j191 s143 v1 Ws143 hv1 (rKeep.tr (rKeep.tr (rKeep.tr (rKeep.tr (rKeep.tr (rKeep.tr rKeep.rf (rKeep.sF0 (f := 29)) rfl rfl rfl rfl rfl) qs16.1 rfl rfl rfl rfl rfl) qs123.1 rfl rfl rfl rfl rfl) (rKeep.sF0 (f := 29)) rfl rfl rfl rfl rfl) qs139.1 rfl rfl rfl rfl rfl) qs143.1 rfl rfl rfl rfl rfl) h
        · have h := hF c
          refine z_aload_n hC (pc := 153) 1 dX14_readAt_153 rfl rfl ?_
          obtain ⟨p86, h⟩ := h
          refine y_callVi hC (pc := 154) (As := []) (kX14_isReserved l G κ s143  Ws143  p86) dmX14_isReserved zf14 rOb_0 dX14_readAt_154 zw3141 rfl rfl (Nat.le_of_ble_eq_true rfl) (Nat.le_of_ble_eq_true rfl) (by omega) (by omega) (Nat.le_of_ble_eq_true rfl) (kk := fun v154 s154 hv154 Ws154 qs154 => ?_)
          obtain ⟨es154, qs154⟩ := qs154
          have es154 := es154.symm
          subst es154
          have h := h v154 hv154 qs154
          obtain ⟨hT, hF⟩ := h
          refine y_if_ne hC (pc := 157) 191 hv154 dX14_readAt_157 (by decide) (fun c => ?_) (fun c => ?_)
          · have h := hT c
            refine z_lvs [1, 2, 0] rfl ?_
            exact j191 s143 v1 Ws143 hv1 (rKeep.tr (rKeep.tr (rKeep.tr (rKeep.tr (rKeep.tr (rKeep.tr rKeep.rf (rKeep.sF0 (f := 29)) rfl rfl rfl rfl rfl) qs16.1 rfl rfl rfl rfl rfl) qs123.1 rfl rfl rfl rfl rfl) (rKeep.sF0 (f := 29)) rfl rfl rfl rfl rfl) qs139.1 rfl rfl rfl rfl rfl) qs143.1 rfl rfl rfl rfl rfl) h
          · have h := hF c
            refine z_aload_n hC (pc := 160) 1 dX14_readAt_160 rfl rfl ?_
            refine y_get hC (pc := 161) zf14 rOb_0 26 (v := .ref (κ 1026)) dX14_readAt_161 zw2493 (rv_c rfl) (kk := ?_)
            refine z_aload_n hC (pc := 164) 1 dX14_readAt_164 rfl rfl ?_
            refine y_get hC (pc := 165) zf14 rOb_0 28 (v := iv (rF s143 0 28)) dX14_readAt_165 zw2495 (rv_i (Or.inl rfl) rfl) (kk := ?_)
            have h := h (Ws143.f _ _)
            refine z_aload_n hC (pc := 168) 1 dX14_readAt_168 rfl rfl ?_
            refine y_get hC (pc := 169) zf14 rOb_0 29 (v := iv (rF s143 0 29)) dX14_readAt_169 zw2496 (rv_i (Or.inl rfl) rfl) (kk := ?_)
            have h := h (Ws143.f _ _)
            obtain ⟨p87, h⟩ := h
            refine y_callSi hC (pc := 172) (As := [.ref (κ 1026), iv (rF s143 0 28), iv (rF s143 0 29)]) (kX14_wordEnd_t l G κ s143 1026 4001 (rF s143 0 28) (rF s143 0 29) Ws143 (rAr_m rfl) (Ws143.f _ _) (Ws143.f _ _) p87) dmX14_wordEnd dX14_readAt_172 zw3009 rfl rfl (Nat.le_of_ble_eq_true rfl) (Nat.le_of_ble_eq_true rfl) (by omega) (by omega) (Nat.le_of_ble_eq_true rfl) (kk := fun v172 s172 hv172 Ws172 qs172 => ?_)
            obtain ⟨es172, qs172⟩ := qs172
            have es172 := es172.symm
            subst es172
            have h := h v172 hv172 qs172
            refine z_aload_n hC (pc := 175) 1 dX14_readAt_175 rfl rfl ?_
            refine y_get hC (pc := 176) zf14 rOb_0 29 (v := iv (rF s143 0 29)) dX14_readAt_176 zw2496 (rv_i (Or.inl rfl) rfl) (kk := ?_)
            refine y_isub hC (pc := 179) (v := (v172 - (rF s143 0 29))) dX14_readAt_179 rfl ?_
            refine z_bipush hC (pc := 180) (v := Int32.ofInt 16) dX14_readAt_180 (by decide) ?_
            obtain ⟨r88, h⟩ := h
            obtain ⟨hT, hF⟩ := h
            refine y_icmp_le hC (pc := 182) 191 r88 (r_lit rfl) dX14_readAt_182 (by decide) (fun c => ?_) (fun c => ?_)
            · have h := hT c
              refine z_lvs [1, 2, 0] rfl ?_
              exact j191 s143 v1 Ws143 hv1 (rKeep.tr (rKeep.tr (rKeep.tr (rKeep.tr (rKeep.tr (rKeep.tr rKeep.rf (rKeep.sF0 (f := 29)) rfl rfl rfl rfl rfl) qs16.1 rfl rfl rfl rfl rfl) qs123.1 rfl rfl rfl rfl rfl) (rKeep.sF0 (f := 29)) rfl rfl rfl rfl rfl) qs139.1 rfl rfl rfl rfl rfl) qs143.1 rfl rfl rfl rfl rfl) h
            · have h := hF c
              refine z_aload_n hC (pc := 185) 1 dX14_readAt_185 rfl rfl ?_
              refine z_iconst hC (pc := 186) (v := Int32.ofInt 1) dX14_readAt_186 (by decide) ?_
              refine z_iload_n hC (pc := 187) 0 dX14_readAt_187 rfl rfl ?_
              obtain ⟨p89, h⟩ := h
              refine y_callVv hC (pc := 188) (As := [iv 1, iv v1]) (kX14_bad l G κ s143 1 v1 Ws143 (r_lit rfl) hv1 p89) dmX14_bad zf14 rOb_0 dX14_readAt_188 zw3000 rfl rfl (Nat.le_of_ble_eq_true rfl) (Nat.le_of_ble_eq_true rfl) (by omega) (by omega) (Nat.le_of_ble_eq_true rfl) (kk := fun s188 Ws188 qs188 => ?_)
              have h := h s188 Ws188 (rNMp.keep qs188.1 rfl rfl rfl rfl rfl) (TPRp.keep qs188.1 rfl rfl rfl) (WNp.keep qs188.1 rfl rfl rfl rfl rfl) (PNp.keep qs188.1 rfl rfl rfl rfl rfl) (CCp.keep qs188.1 rfl rfl rfl rfl rfl rfl rfl) (qs188.1.R rfl) (qs188.1.F rfl) (qs188.1.F rfl) (qs188.1.F rfl) (qs188.1.F rfl) (qs188.1.F rfl) (qs188.1.F rfl) (qs188.1.F rfl) (qs188.1.F rfl) (qs188.1.F rfl) (qs188.1.F rfl) (qs188.1.F rfl) (fun i => qs188.1.A (f := 26) (by decide) rfl) (fun i => qs188.1.A (f := 34) (by decide) rfl) (fun i => qs188.1.A (f := 35) (by decide) rfl) (fun i => qs188.1.A (f := 37) (by decide) rfl) (fun i => qs188.1.A (f := 40) (by decide) rfl) (qs188.1.FG g0 rfl) (qs188.1.FG g0 rfl) (qs188.1.FG g0 rfl) (qs188.1.FG g0 rfl) (qs188.1.FG g0 rfl) (fun i => qs188.1.AG (f := 31) g0 (by decide) rfl) (fun i => qs188.1.AG (f := 33) g0 (by decide) rfl) (fun i => qs188.1.AG (f := 34) g0 (by decide) rfl) (fun i => qs188.1.AG (f := 35) g0 (by decide) rfl) (RG.keep (c0 := 0) qs188.1 rfl rfl rfl rfl rfl rfl rfl rfl rfl rfl rfl rfl rfl rfl rfl rfl rfl rfl) qs188.2
              refine z_lvs [1, 2, 0] rfl ?_
              exact j191 s188 v1 Ws188 hv1 (rKeep.tr (rKeep.tr (rKeep.tr (rKeep.tr (rKeep.tr (rKeep.tr (rKeep.tr rKeep.rf (rKeep.sF0 (f := 29)) rfl rfl rfl rfl rfl) qs16.1 rfl rfl rfl rfl rfl) qs123.1 rfl rfl rfl rfl rfl) (rKeep.sF0 (f := 29)) rfl rfl rfl rfl rfl) qs139.1 rfl rfl rfl rfl rfl) qs143.1 rfl rfl rfl rfl rfl) qs188.1 rfl rfl rfl rfl rfl) h
  · have h := hF c
    refine z_aload_n hC (pc := 29) 1 dX14_readAt_29 rfl rfl ?_
    refine z_bipush hC (pc := 30) (v := Int32.ofInt 25) dX14_readAt_30 (by decide) ?_
    refine z_iload_n hC (pc := 32) 3 dX14_readAt_32 rfl rfl ?_
    obtain ⟨p90, h⟩ := h
    refine y_callVi hC (pc := 33) (As := [iv 25, iv x2]) (kX14_isOpen l G κ s16 25 x2 Ws16 (r_lit rfl) hx2 p90) dmX14_isOpen zf14 rOb_0 dX14_readAt_33 zw3132 rfl rfl (Nat.le_of_ble_eq_true rfl) (Nat.le_of_ble_eq_true rfl) (by omega) (by omega) (Nat.le_of_ble_eq_true rfl) (kk := fun v33 s33 hv33 Ws33 qs33 => ?_)
    obtain ⟨es33, qs33⟩ := qs33
    have es33 := es33.symm
    subst es33
    have h := h v33 hv33 qs33
    obtain ⟨hT, hF⟩ := h
    refine y_if_ne hC (pc := 36) 48 hv33 dX14_readAt_36 (by decide) (fun c => ?_) (fun c => ?_)
    · have h := hT c
      refine z_aload_n hC (pc := 48) 1 dX14_readAt_48 rfl rfl ?_
      refine z_dup hC (pc := 49) dX14_readAt_49 rfl ?_
      refine y_get hC (pc := 50) zf14 rOb_0 29 (v := iv (rF s16 0 29)) dX14_readAt_50 zw2496 (rv_i (Or.inl rfl) rfl) (kk := ?_)
      have h := h (Ws16.f _ _)
      refine z_iconst hC (pc := 53) (v := Int32.ofInt 3) dX14_readAt_53 (by decide) ?_
      refine y_iadd hC (pc := 54) (v := ((rF s16 0 29) + 3)) dX14_readAt_54 rfl ?_
      obtain ⟨r91, h⟩ := h
      refine y_putI hC (pc := 55) zf14 rOb_0 29 (x := ((rF s16 0 29) + 3)) dX14_readAt_55 zw2496 (Or.inl rfl) rfl rfl (kk := ?_)
      have W92 := Ws16.sF (q := 0) (f := 29) (x := ((rF s16 0 29) + 3)) r91
      refine z_aload_n hC (pc := 58) 1 dX14_readAt_58 rfl rfl ?_
      refine z_aload_n hC (pc := 59) 1 dX14_readAt_59 rfl rfl ?_
      refine y_get hC (pc := 60) zf14 rOb_0 19 (v := iv (rF s16 0 19)) dX14_readAt_60 zw2486 (rv_i (Or.inl rfl) ((F_sF_ne (by decide)).trans rfl)) (kk := ?_)
      have h := h (Ws16.f _ _)
      obtain ⟨p93, h⟩ := h
      refine y_callVv hC (pc := 63) (As := [iv (rF s16 0 19)]) (kX14_need l G κ (sF s16 0 29 ((rF s16 0 29) + 3)) (rF s16 0 19) W92 (Ws16.f _ _) p93) dmX14_need zf14 rOb_0 dX14_readAt_63 zw3136 rfl rfl (Nat.le_of_ble_eq_true rfl) (Nat.le_of_ble_eq_true rfl) (by omega) (by omega) (Nat.le_of_ble_eq_true rfl) (kk := fun s63 Ws63 qs63 => ?_)
      have h := h s63 Ws63 (rNMp.keep qs63.1 rfl rfl rfl rfl rfl) (TPRp.keep qs63.1 rfl rfl rfl) (WNp.keep qs63.1 rfl rfl rfl rfl rfl) (PNp.keep qs63.1 rfl rfl rfl rfl rfl) (CCp.keep qs63.1 rfl rfl rfl rfl rfl rfl rfl) (qs63.1.R rfl) (qs63.1.F rfl) (qs63.1.F rfl) (qs63.1.F rfl) (qs63.1.F rfl) (qs63.1.F rfl) (qs63.1.F rfl) (qs63.1.F rfl) (qs63.1.F rfl) (qs63.1.F rfl) (qs63.1.F rfl) (fun i => qs63.1.A (f := 26) (by decide) rfl) (fun i => qs63.1.A (f := 34) (by decide) rfl) (fun i => qs63.1.A (f := 35) (by decide) rfl) (fun i => qs63.1.A (f := 37) (by decide) rfl) (fun i => qs63.1.A (f := 40) (by decide) rfl) (qs63.1.FG g0 rfl) (qs63.1.FG g0 rfl) (qs63.1.FG g0 rfl) (qs63.1.FG g0 rfl) (qs63.1.FG g0 rfl) (fun i => qs63.1.AG (f := 31) g0 (by decide) rfl) (fun i => qs63.1.AG (f := 33) g0 (by decide) rfl) (fun i => qs63.1.AG (f := 34) g0 (by decide) rfl) (fun i => qs63.1.AG (f := 35) g0 (by decide) rfl) (RG.keep (c0 := 0) qs63.1 rfl rfl rfl rfl rfl rfl rfl rfl rfl rfl rfl rfl rfl rfl rfl rfl rfl rfl) qs63.2
      refine z_aload_n hC (pc := 66) 1 dX14_readAt_66 rfl rfl ?_
      refine y_get hC (pc := 67) zf14 rOb_0 10 (v := iv (rF s63 0 10)) dX14_readAt_67 zw2478 (rv_i (Or.inl rfl) rfl) (kk := ?_)
      have h := h (Ws63.f _ _)
      obtain ⟨hT, hF⟩ := h
      refine y_if_eq hC (pc := 70) 74 (Ws63.f _ _) dX14_readAt_70 (by decide) (fun c => ?_) (fun c => ?_)
      · have h := hT c
        refine z_aload_n hC (pc := 74) 1 dX14_readAt_74 rfl rfl ?_
        refine z_dup hC (pc := 75) dX14_readAt_75 rfl ?_
        refine y_get hC (pc := 76) zf14 rOb_0 39 (v := iv (rF s63 0 39)) dX14_readAt_76 zw2506 (rv_i (Or.inl rfl) rfl) (kk := ?_)
        have h := h (Ws63.f _ _)
        refine z_iconst hC (pc := 79) (v := Int32.ofInt 1) dX14_readAt_79 (by decide) ?_
        refine y_isub hC (pc := 80) (v := ((rF s63 0 39) - 1)) dX14_readAt_80 rfl ?_
        obtain ⟨r94, h⟩ := h
        refine y_putI hC (pc := 81) zf14 rOb_0 39 (x := ((rF s63 0 39) - 1)) dX14_readAt_81 zw2506 (Or.inl rfl) rfl rfl (kk := ?_)
        have W95 := Ws63.sF (q := 0) (f := 39) (x := ((rF s63 0 39) - 1)) r94
        refine z_aload_n hC (pc := 84) 1 dX14_readAt_84 rfl rfl ?_
        refine z_dup hC (pc := 85) dX14_readAt_85 rfl ?_
        refine y_get hC (pc := 86) zf14 rOb_0 31 (v := iv (rF σ 0 31)) dX14_readAt_86 zw2498 (rv_i (Or.inl rfl) ((F_sF_ne (by decide)).trans ((qs63.1.F rfl).trans ((F_sF_ne (by decide)).trans ((qs16.1.F rfl).trans ((F_sF_ne (by decide)).trans rfl)))))) (kk := ?_)
        have h := h (hwf.f _ _)
        refine z_iconst hC (pc := 89) (v := Int32.ofInt 1) dX14_readAt_89 (by decide) ?_
        refine y_isub hC (pc := 90) (v := ((rF σ 0 31) - 1)) dX14_readAt_90 rfl ?_
        obtain ⟨r96, h⟩ := h
        refine y_putI hC (pc := 91) zf14 rOb_0 31 (x := ((rF σ 0 31) - 1)) dX14_readAt_91 zw2498 (Or.inl rfl) rfl rfl (kk := ?_)
        have W97 := W95.sF (q := 0) (f := 31) (x := ((rF σ 0 31) - 1)) r96
        refine z_aload_n hC (pc := 94) 1 dX14_readAt_94 rfl rfl ?_
        refine z_bipush hC (pc := 95) (v := Int32.ofInt 26) dX14_readAt_95 (by decide) ?_
        refine z_iconst hC (pc := 97) (v := Int32.ofInt 0) dX14_readAt_97 (by decide) ?_
        refine z_iload_n hC (pc := 98) 2 dX14_readAt_98 rfl rfl ?_
        obtain ⟨p98, h⟩ := h
        refine y_callVv hC (pc := 99) (As := [iv 26, iv 0, iv x1]) (kX14_note_t l G κ (sF (sF s63 0 39 ((rF s63 0 39) - 1)) 0 31 ((rF σ 0 31) - 1)) 26 0 x1 gg W97 (r_lit rfl) (r_lit rfl) hx1 p98) dmX14_note zf14 rOb_0 dX14_readAt_99 zw3111 rfl rfl (Nat.le_of_ble_eq_true rfl) (Nat.le_of_ble_eq_true rfl) (by omega) (by omega) (Nat.le_of_ble_eq_true rfl) (kk := fun s99 Ws99 qs99 => ?_)
        have h := h s99 Ws99 (rNMp.keep qs99.1 rfl rfl rfl rfl rfl) (TPRp.keep qs99.1 rfl rfl rfl) (PNp.keep qs99.1 rfl rfl rfl rfl rfl) (CCp.keep qs99.1 rfl rfl rfl rfl rfl rfl rfl) (qs99.1.R rfl) (qs99.1.F rfl) (qs99.1.F rfl) (qs99.1.F rfl) (qs99.1.F rfl) (qs99.1.F rfl) (qs99.1.F rfl) (qs99.1.F rfl) (qs99.1.F rfl) (qs99.1.F rfl) (qs99.1.F rfl) (qs99.1.F rfl) (fun i => qs99.1.A (f := 26) (by decide) rfl) (fun i => qs99.1.A (f := 40) (by decide) rfl) (qs99.1.FG g0 rfl) (qs99.1.FG g0 rfl) (qs99.1.FG g0 rfl) (qs99.1.FG g0 rfl) (qs99.1.FG g0 rfl) (fun i => qs99.1.AG (f := 31) g0 (by decide) rfl) (fun i => qs99.1.AG (f := 33) g0 (by decide) rfl) (fun i => qs99.1.AG (f := 34) g0 (by decide) rfl) (fun i => qs99.1.AG (f := 35) g0 (by decide) rfl) (fz_keep qs99.1 rfl) qs99.2
        exact y_retv hR dX14_readAt_102 Ws99 (Nat.le_of_ble_eq_true rfl) (Nat.le_of_ble_eq_true rfl) ⟨(rKeep.tr (rKeep.tr (rKeep.tr (rKeep.tr (rKeep.tr (rKeep.tr (rKeep.tr rKeep.rf (rKeep.sF0 (f := 29)) rfl rfl rfl rfl rfl) qs16.1 rfl rfl rfl rfl rfl) (rKeep.sF0 (f := 29)) rfl rfl rfl rfl rfl) qs63.1 rfl rfl rfl rfl rfl) (rKeep.sF0 (f := 39)) rfl rfl rfl rfl rfl) (rKeep.sF0 (f := 31)) rfl rfl rfl rfl rfl) qs99.1 rfl rfl rfl rfl rfl), h⟩
      · have h := hF c
        exact y_retv hR dX14_readAt_73 Ws63 (Nat.le_of_ble_eq_true rfl) (Nat.le_of_ble_eq_true rfl) ⟨(rKeep.tr (rKeep.tr (rKeep.tr (rKeep.tr rKeep.rf (rKeep.sF0 (f := 29)) rfl rfl rfl rfl rfl) qs16.1 rfl rfl rfl rfl rfl) (rKeep.sF0 (f := 29)) rfl rfl rfl rfl rfl) qs63.1 rfl rfl rfl rfl rfl), h⟩
    · have h := hF c
      refine z_aload_n hC (pc := 39) 1 dX14_readAt_39 rfl rfl ?_
      refine z_iconst hC (pc := 40) (v := Int32.ofInt 1) dX14_readAt_40 (by decide) ?_
      refine z_aload_n hC (pc := 41) 1 dX14_readAt_41 rfl rfl ?_
      obtain ⟨p99, h⟩ := h
      refine y_callVi hC (pc := 42) (As := []) (kX14_place l G κ s16  Ws16  p99) dmX14_place zf14 rOb_0 dX14_readAt_42 zw3103 rfl rfl (Nat.le_of_ble_eq_true rfl) (Nat.le_of_ble_eq_true rfl) (by omega) (by omega) (Nat.le_of_ble_eq_true rfl) (kk := fun v42 s42 hv42 Ws42 qs42 => ?_)
      obtain ⟨es42, qs42⟩ := qs42
      have es42 := es42.symm
      subst es42
      have h := h v42 hv42 qs42
      obtain ⟨p100, h⟩ := h
      refine y_callVv hC (pc := 45) (As := [iv 1, iv v42]) (kX14_bad l G κ s16 1 v42 Ws16 (r_lit rfl) hv42 p100) dmX14_bad zf14 rOb_0 dX14_readAt_45 zw3000 rfl rfl (Nat.le_of_ble_eq_true rfl) (Nat.le_of_ble_eq_true rfl) (by omega) (by omega) (Nat.le_of_ble_eq_true rfl) (kk := fun s45 Ws45 qs45 => ?_)
      have h := h s45 Ws45 (rNMp.keep qs45.1 rfl rfl rfl rfl rfl) (TPRp.keep qs45.1 rfl rfl rfl) (WNp.keep qs45.1 rfl rfl rfl rfl rfl) (PNp.keep qs45.1 rfl rfl rfl rfl rfl) (CCp.keep qs45.1 rfl rfl rfl rfl rfl rfl rfl) (qs45.1.R rfl) (qs45.1.F rfl) (qs45.1.F rfl) (qs45.1.F rfl) (qs45.1.F rfl) (qs45.1.F rfl) (qs45.1.F rfl) (qs45.1.F rfl) (qs45.1.F rfl) (qs45.1.F rfl) (qs45.1.F rfl) (qs45.1.F rfl) (fun i => qs45.1.A (f := 26) (by decide) rfl) (fun i => qs45.1.A (f := 34) (by decide) rfl) (fun i => qs45.1.A (f := 35) (by decide) rfl) (fun i => qs45.1.A (f := 37) (by decide) rfl) (fun i => qs45.1.A (f := 40) (by decide) rfl) (qs45.1.FG g0 rfl) (qs45.1.FG g0 rfl) (qs45.1.FG g0 rfl) (qs45.1.FG g0 rfl) (qs45.1.FG g0 rfl) (fun i => qs45.1.AG (f := 31) g0 (by decide) rfl) (fun i => qs45.1.AG (f := 33) g0 (by decide) rfl) (fun i => qs45.1.AG (f := 34) g0 (by decide) rfl) (fun i => qs45.1.AG (f := 35) g0 (by decide) rfl) (RG.keep (c0 := 0) qs45.1 rfl rfl rfl rfl rfl rfl rfl rfl rfl rfl rfl rfl rfl rfl rfl rfl rfl rfl) qs45.2
      refine z_aload_n hC (pc := 48) 1 dX14_readAt_48 rfl rfl ?_
      refine z_dup hC (pc := 49) dX14_readAt_49 rfl ?_
      refine y_get hC (pc := 50) zf14 rOb_0 29 (v := iv (rF s16 0 29)) dX14_readAt_50 zw2496 (rv_i (Or.inl rfl) ((qs45.1.F rfl).trans rfl)) (kk := ?_)
      have h := h (Ws16.f _ _)
      refine z_iconst hC (pc := 53) (v := Int32.ofInt 3) dX14_readAt_53 (by decide) ?_
      refine y_iadd hC (pc := 54) (v := ((rF s16 0 29) + 3)) dX14_readAt_54 rfl ?_
      obtain ⟨r101, h⟩ := h
      refine y_putI hC (pc := 55) zf14 rOb_0 29 (x := ((rF s16 0 29) + 3)) dX14_readAt_55 zw2496 (Or.inl rfl) rfl rfl (kk := ?_)
      have W102 := Ws45.sF (q := 0) (f := 29) (x := ((rF s16 0 29) + 3)) r101
      refine z_aload_n hC (pc := 58) 1 dX14_readAt_58 rfl rfl ?_
      refine z_aload_n hC (pc := 59) 1 dX14_readAt_59 rfl rfl ?_
      refine y_get hC (pc := 60) zf14 rOb_0 19 (v := iv (rF s45 0 19)) dX14_readAt_60 zw2486 (rv_i (Or.inl rfl) ((F_sF_ne (by decide)).trans rfl)) (kk := ?_)
      have h := h (Ws45.f _ _)
      obtain ⟨p103, h⟩ := h
      refine y_callVv hC (pc := 63) (As := [iv (rF s45 0 19)]) (kX14_need l G κ (sF s45 0 29 ((rF s16 0 29) + 3)) (rF s45 0 19) W102 (Ws45.f _ _) p103) dmX14_need zf14 rOb_0 dX14_readAt_63 zw3136 rfl rfl (Nat.le_of_ble_eq_true rfl) (Nat.le_of_ble_eq_true rfl) (by omega) (by omega) (Nat.le_of_ble_eq_true rfl) (kk := fun s63 Ws63 qs63 => ?_)
      have h := h s63 Ws63 (rNMp.keep qs63.1 rfl rfl rfl rfl rfl) (TPRp.keep qs63.1 rfl rfl rfl) (WNp.keep qs63.1 rfl rfl rfl rfl rfl) (PNp.keep qs63.1 rfl rfl rfl rfl rfl) (CCp.keep qs63.1 rfl rfl rfl rfl rfl rfl rfl) (qs63.1.R rfl) (qs63.1.F rfl) (qs63.1.F rfl) (qs63.1.F rfl) (qs63.1.F rfl) (qs63.1.F rfl) (qs63.1.F rfl) (qs63.1.F rfl) (qs63.1.F rfl) (qs63.1.F rfl) (qs63.1.F rfl) (fun i => qs63.1.A (f := 26) (by decide) rfl) (fun i => qs63.1.A (f := 34) (by decide) rfl) (fun i => qs63.1.A (f := 35) (by decide) rfl) (fun i => qs63.1.A (f := 37) (by decide) rfl) (fun i => qs63.1.A (f := 40) (by decide) rfl) (qs63.1.FG g0 rfl) (qs63.1.FG g0 rfl) (qs63.1.FG g0 rfl) (qs63.1.FG g0 rfl) (qs63.1.FG g0 rfl) (fun i => qs63.1.AG (f := 31) g0 (by decide) rfl) (fun i => qs63.1.AG (f := 33) g0 (by decide) rfl) (fun i => qs63.1.AG (f := 34) g0 (by decide) rfl) (fun i => qs63.1.AG (f := 35) g0 (by decide) rfl) (RG.keep (c0 := 0) qs63.1 rfl rfl rfl rfl rfl rfl rfl rfl rfl rfl rfl rfl rfl rfl rfl rfl rfl rfl) qs63.2
      refine z_aload_n hC (pc := 66) 1 dX14_readAt_66 rfl rfl ?_
      refine y_get hC (pc := 67) zf14 rOb_0 10 (v := iv (rF s63 0 10)) dX14_readAt_67 zw2478 (rv_i (Or.inl rfl) rfl) (kk := ?_)
      have h := h (Ws63.f _ _)
      obtain ⟨hT, hF⟩ := h
      refine y_if_eq hC (pc := 70) 74 (Ws63.f _ _) dX14_readAt_70 (by decide) (fun c => ?_) (fun c => ?_)
      · have h := hT c
        refine z_aload_n hC (pc := 74) 1 dX14_readAt_74 rfl rfl ?_
        refine z_dup hC (pc := 75) dX14_readAt_75 rfl ?_
        refine y_get hC (pc := 76) zf14 rOb_0 39 (v := iv (rF s63 0 39)) dX14_readAt_76 zw2506 (rv_i (Or.inl rfl) rfl) (kk := ?_)
        have h := h (Ws63.f _ _)
        refine z_iconst hC (pc := 79) (v := Int32.ofInt 1) dX14_readAt_79 (by decide) ?_
        refine y_isub hC (pc := 80) (v := ((rF s63 0 39) - 1)) dX14_readAt_80 rfl ?_
        obtain ⟨r104, h⟩ := h
        refine y_putI hC (pc := 81) zf14 rOb_0 39 (x := ((rF s63 0 39) - 1)) dX14_readAt_81 zw2506 (Or.inl rfl) rfl rfl (kk := ?_)
        have W105 := Ws63.sF (q := 0) (f := 39) (x := ((rF s63 0 39) - 1)) r104
        refine z_aload_n hC (pc := 84) 1 dX14_readAt_84 rfl rfl ?_
        refine z_dup hC (pc := 85) dX14_readAt_85 rfl ?_
        refine y_get hC (pc := 86) zf14 rOb_0 31 (v := iv (rF σ 0 31)) dX14_readAt_86 zw2498 (rv_i (Or.inl rfl) ((F_sF_ne (by decide)).trans ((qs63.1.F rfl).trans ((F_sF_ne (by decide)).trans ((qs45.1.F rfl).trans ((qs16.1.F rfl).trans ((F_sF_ne (by decide)).trans rfl))))))) (kk := ?_)
        have h := h (hwf.f _ _)
        refine z_iconst hC (pc := 89) (v := Int32.ofInt 1) dX14_readAt_89 (by decide) ?_
        refine y_isub hC (pc := 90) (v := ((rF σ 0 31) - 1)) dX14_readAt_90 rfl ?_
        obtain ⟨r106, h⟩ := h
        refine y_putI hC (pc := 91) zf14 rOb_0 31 (x := ((rF σ 0 31) - 1)) dX14_readAt_91 zw2498 (Or.inl rfl) rfl rfl (kk := ?_)
        have W107 := W105.sF (q := 0) (f := 31) (x := ((rF σ 0 31) - 1)) r106
        refine z_aload_n hC (pc := 94) 1 dX14_readAt_94 rfl rfl ?_
        refine z_bipush hC (pc := 95) (v := Int32.ofInt 26) dX14_readAt_95 (by decide) ?_
        refine z_iconst hC (pc := 97) (v := Int32.ofInt 0) dX14_readAt_97 (by decide) ?_
        refine z_iload_n hC (pc := 98) 2 dX14_readAt_98 rfl rfl ?_
        obtain ⟨p108, h⟩ := h
        refine y_callVv hC (pc := 99) (As := [iv 26, iv 0, iv x1]) (kX14_note_t l G κ (sF (sF s63 0 39 ((rF s63 0 39) - 1)) 0 31 ((rF σ 0 31) - 1)) 26 0 x1 gg W107 (r_lit rfl) (r_lit rfl) hx1 p108) dmX14_note zf14 rOb_0 dX14_readAt_99 zw3111 rfl rfl (Nat.le_of_ble_eq_true rfl) (Nat.le_of_ble_eq_true rfl) (by omega) (by omega) (Nat.le_of_ble_eq_true rfl) (kk := fun s99 Ws99 qs99 => ?_)
        have h := h s99 Ws99 (rNMp.keep qs99.1 rfl rfl rfl rfl rfl) (TPRp.keep qs99.1 rfl rfl rfl) (PNp.keep qs99.1 rfl rfl rfl rfl rfl) (CCp.keep qs99.1 rfl rfl rfl rfl rfl rfl rfl) (qs99.1.R rfl) (qs99.1.F rfl) (qs99.1.F rfl) (qs99.1.F rfl) (qs99.1.F rfl) (qs99.1.F rfl) (qs99.1.F rfl) (qs99.1.F rfl) (qs99.1.F rfl) (qs99.1.F rfl) (qs99.1.F rfl) (qs99.1.F rfl) (fun i => qs99.1.A (f := 26) (by decide) rfl) (fun i => qs99.1.A (f := 40) (by decide) rfl) (qs99.1.FG g0 rfl) (qs99.1.FG g0 rfl) (qs99.1.FG g0 rfl) (qs99.1.FG g0 rfl) (qs99.1.FG g0 rfl) (fun i => qs99.1.AG (f := 31) g0 (by decide) rfl) (fun i => qs99.1.AG (f := 33) g0 (by decide) rfl) (fun i => qs99.1.AG (f := 34) g0 (by decide) rfl) (fun i => qs99.1.AG (f := 35) g0 (by decide) rfl) (fz_keep qs99.1 rfl) qs99.2
        exact y_retv hR dX14_readAt_102 Ws99 (Nat.le_of_ble_eq_true rfl) (Nat.le_of_ble_eq_true rfl) ⟨(rKeep.tr (rKeep.tr (rKeep.tr (rKeep.tr (rKeep.tr (rKeep.tr (rKeep.tr (rKeep.tr rKeep.rf (rKeep.sF0 (f := 29)) rfl rfl rfl rfl rfl) qs16.1 rfl rfl rfl rfl rfl) qs45.1 rfl rfl rfl rfl rfl) (rKeep.sF0 (f := 29)) rfl rfl rfl rfl rfl) qs63.1 rfl rfl rfl rfl rfl) (rKeep.sF0 (f := 39)) rfl rfl rfl rfl rfl) (rKeep.sF0 (f := 31)) rfl rfl rfl rfl rfl) qs99.1 rfl rfl rfl rfl rfl), h⟩
      · have h := hF c
        exact y_retv hR dX14_readAt_73 Ws63 (Nat.le_of_ble_eq_true rfl) (Nat.le_of_ble_eq_true rfl) ⟨(rKeep.tr (rKeep.tr (rKeep.tr (rKeep.tr (rKeep.tr rKeep.rf (rKeep.sF0 (f := 29)) rfl rfl rfl rfl rfl) qs16.1 rfl rfl rfl rfl rfl) qs45.1 rfl rfl rfl rfl rfl) (rKeep.sF0 (f := 29)) rfl rfl rfl rfl rfl) qs63.1 rfl rfl rfl rfl rfl), h⟩
theorem kX14_readAt (l : Launch) (G : zG) (κ : Nat → Nat) (n : Nat) (ih : Q_rd l G κ n) (σ : rS) (x1 : Int) (x2 : Int) (gg : Nat) (g : Nat → Int → Int) (L : List Int) (hwf : rWF σ) (hx1 : rng x1) (hx2 : rng x2) (hp : pre_X14_readAt σ x1 x2 gg g L) (hr : rk_X14_readAt σ x1 x2 gg g L ≤ n + 1) : rMv l G κ yX14_readAt cX14_readAt 6 (n + 1 + 100) ((n + 1) * 40 + 3600) [.ref (κ 0), iv x1, iv x2] σ (fun s => rKeep 0x2c0a0001c00 0x4100001280 0x13c00000000 0x3ee0000d7f 0 σ s ∧ post_X14_readAt σ x1 x2 gg g L s) := wX14_readAt l G κ n ih σ x1 x2 gg g L hwf hx1 hx2 (post_X14_readAt σ x1 x2 gg g L) (vX14_readAt n σ x1 x2 gg g L hwf hx1 hx2 hp hr) (vX14_readAt_388 n σ x1 x2 gg g L hwf hx1 hx2 hp hr) (vX14_readAt_349 n σ x1 x2 gg g L hwf hx1 hx2 hp hr) (vX14_readAt_227 n σ x1 x2 gg g L hwf hx1 hx2 hp hr) (vX14_readAt_191 n σ x1 x2 gg g L hwf hx1 hx2 hp hr)
