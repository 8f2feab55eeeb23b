theorem wX14_readExpre (l : Launch) (G : zG) (κ : Nat → Nat) (n : Nat) (ih : Q_rd l G κ n) (σ : rS) (x1 : Int) (gg : Nat) (g : Nat → Int → Int) (hwf : rWF σ) (hx1 : rng x1) (Q : rS → Prop) (h : VC_X14_readExpre n σ x1 gg g Q) (h_394 : VC_X14_readExpre_394 n σ x1 gg g Q) (h_283 : VC_X14_readExpre_283 n σ x1 gg g Q) (h_283m : VC_X14_readExpre_283m n σ x1 gg g) (h_224 : VC_X14_readExpre_224 n σ x1 gg g Q) (h_224m : VC_X14_readExpre_224m n σ x1 gg g) (h_33 : VC_X14_readExpre_33 n σ x1 gg g Q) (h_33m : VC_X14_readExpre_33m n σ x1 gg g) : rMv l G κ yX14_readExpr cX14_readExpr 9 (n + 1 + 100) ((n + 1) * 40 + 3600) [.ref (κ 0), iv x1] σ (fun s => rKeep 0x6c0a3001c00 0x4100001280 0x13c00000000 0x3ee0000d7f 0 σ s ∧ Q s) := by
  refine zMv.intro (by decide +kernel) (Nat.le_of_ble_eq_true rfl) (fun X hC hR => ?_)
  obtain ⟨g0, h⟩ := h
  refine z_aload_n hC (pc := 0) 0 dX14_readExpr_0 rfl rfl ?_
  refine z_iconst hC (pc := 1) (v := Int32.ofInt 4) dX14_readExpr_1 (by decide) ?_
  refine z_iconst hC (pc := 2) (v := Int32.ofInt 0) dX14_readExpr_2 (by decide) ?_
  refine z_iconst hC (pc := 3) (v := Int32.ofInt 0) dX14_readExpr_3 (by decide) ?_
  refine z_iload_n hC (pc := 4) 1 dX14_readExpr_4 rfl rfl ?_
  obtain ⟨p10, h⟩ := h
  refine y_callVi hC (pc := 5) (As := [iv 4, iv 0, iv 0, iv x1]) (kX14_node_t l G κ σ 4 0 0 x1 gg hwf (r_lit rfl) (r_lit rfl) (r_lit rfl) hx1 p10) dmX14_node zf14 rOb_0 dX14_readExpr_5 zw3170 rfl rfl (Nat.le_of_ble_eq_true rfl) (Nat.le_of_ble_eq_true rfl) (by omega) (by omega) (Nat.le_of_ble_eq_true rfl) (kk := fun v5 s5 hv5 Ws5 qs5 => ?_)
  have h := h v5 s5 hv5 Ws5 (rNMp.keep qs5.1 rfl rfl rfl rfl rfl) (TPRp.keep qs5.1 rfl rfl rfl) (WNp.keep qs5.1 rfl rfl rfl rfl rfl) (CCp.keep qs5.1 rfl rfl rfl rfl rfl rfl rfl) (qs5.1.R rfl) (qs5.1.F rfl) (qs5.1.F rfl) (qs5.1.F rfl) (qs5.1.F rfl) (qs5.1.F rfl) (qs5.1.F rfl) (qs5.1.F rfl) (qs5.1.F rfl) (qs5.1.F rfl) (qs5.1.F rfl) (qs5.1.F rfl) (fun i => qs5.1.A (f := 26) (by decide) rfl) (fun i => qs5.1.A (f := 34) (by decide) rfl) (fun i => qs5.1.A (f := 35) (by decide) rfl) (fun i => qs5.1.A (f := 37) (by decide) rfl) (fun i => qs5.1.A (f := 40) (by decide) rfl) (qs5.1.FG g0 rfl) (qs5.1.FG g0 rfl) (qs5.1.FG g0 rfl) (qs5.1.FG g0 rfl) (fun i => qs5.1.AG (f := 33) g0 (by decide) rfl) (fun i => qs5.1.AG (f := 34) g0 (by decide) rfl) (fun i => qs5.1.AG (f := 35) g0 (by decide) rfl) (fz_keep qs5.1 rfl) qs5.2
  refine z_istore_n hC (pc := 8) (lv' := [(2, iv v5), (0, .ref (κ 0)), (1, iv x1)]) dX14_readExpr_8 rfl (by decide) rfl ?_
  refine z_aload_n hC (pc := 9) 1 dX14_readExpr_9 rfl rfl ?_
  obtain ⟨g11, h⟩ := h
  obtain ⟨p12, h⟩ := h
  obtain ⟨p13, h⟩ := h
  refine y_callVi hC (pc := 10) (As := []) (qX14_readMember ih s5 gg g11 Ws5  p12 p13) dmX14_readMember zf14 rOb_0 dX14_readExpr_10 zw3202 rfl rfl (Nat.le_of_ble_eq_true rfl) (Nat.le_of_ble_eq_true rfl) (by omega) (by omega) (Nat.le_of_ble_eq_true rfl) (kk := fun v10 s10 hv10 Ws10 qs10 => ?_)
  have h := h v10 s10 hv10 Ws10 (TPRp.keep qs10.1 rfl rfl rfl) (CCp.keep qs10.1 rfl rfl rfl rfl rfl rfl rfl) (qs10.1.R rfl) (qs10.1.F rfl) (qs10.1.F rfl) (qs10.1.F rfl) (qs10.1.F rfl) (qs10.1.F rfl) (qs10.1.F rfl) (fun i => qs10.1.A (f := 26) (by decide) rfl) qs10.2
  refine z_istore_n hC (pc := 13) (lv' := [(3, iv v10), (2, iv v5), (0, .ref (κ 0)), (1, iv x1)]) dX14_readExpr_13 rfl (by decide) rfl ?_
  refine z_aload_n hC (pc := 14) 2 dX14_readExpr_14 rfl rfl ?_
  obtain ⟨p14, h⟩ := h
  refine y_callVv hC (pc := 15) (As := []) (kX14_blanks l G κ s10  Ws10  p14) dmX14_blanks zf14 rOb_0 dX14_readExpr_15 zw3119 rfl rfl (Nat.le_of_ble_eq_true rfl) (Nat.le_of_ble_eq_true rfl) (by omega) (by omega) (Nat.le_of_ble_eq_true rfl) (kk := fun s15 Ws15 qs15 => ?_)
  have h := h s15 Ws15 (rNMp.keep qs15.1 rfl rfl rfl rfl rfl) (TPRp.keep qs15.1 rfl rfl rfl) (WNp.keep qs15.1 rfl rfl rfl rfl rfl) (PNp.keep qs15.1 rfl rfl rfl rfl rfl) (CCp.keep qs15.1 rfl rfl rfl rfl rfl rfl rfl) (qs15.1.R rfl) (qs15.1.F rfl) (qs15.1.F rfl) (qs15.1.F rfl) (qs15.1.F rfl) (qs15.1.F rfl) (qs15.1.F rfl) (qs15.1.F rfl) (qs15.1.F rfl) (qs15.1.F rfl) (qs15.1.F rfl) (fun i => qs15.1.A (f := 26) (by decide) rfl) (fun i => qs15.1.A (f := 34) (by decide) rfl) (fun i => qs15.1.A (f := 35) (by decide) rfl) (fun i => qs15.1.A (f := 37) (by decide) rfl) (fun i => qs15.1.A (f := 40) (by decide) rfl) (qs15.1.FG g0 rfl) (qs15.1.FG g0 rfl) (qs15.1.FG g0 rfl) (qs15.1.FG g0 rfl) (qs15.1.FG g0 rfl) (fun i => qs15.1.AG (f := 33) g0 (by decide) rfl) (fun i => qs15.1.AG (f := 34) g0 (by decide) rfl) (fun i => qs15.1.AG (f := 35) g0 (by decide) rfl) (fz_keep qs15.1 rfl) (RG.keep (c0 := 0) qs15.1 rfl rfl rfl rfl rfl rfl rfl rfl rfl rfl rfl rfl rfl rfl rfl rfl rfl rfl) qs15.2
  refine z_aload_n hC (pc := 18) 2 dX14_readExpr_18 rfl rfl ?_
  obtain ⟨p15, h⟩ := h
  refine y_callVi hC (pc := 19) (As := []) (kX14_here l G κ s15  Ws15  p15) dmX14_here zf14 rOb_0 dX14_readExpr_19 zw3099 rfl rfl (Nat.le_of_ble_eq_true rfl) (Nat.le_of_ble_eq_true rfl) (by omega) (by omega) (Nat.le_of_ble_eq_true rfl) (kk := fun v19 s19 hv19 Ws19 qs19 => ?_)
  obtain ⟨es19, qs19⟩ := qs19
  have es19 := es19.symm
  subst es19
  have h := h v19 hv19 qs19
  refine z_bipush hC (pc := 22) (v := Int32.ofInt 44) dX14_readExpr_22 (by decide) ?_
  have j394 : ∀ (s394 : rS) (y394_2 : Int), rWF s394 → rng y394_2 → rKeep 0x6c0a3001c00 0x4100001280 0x13c00000000 0x3ee0000d7f 0 σ s394 → inv_X14_readExpre_394 σ x1 gg g s394 y394_2 → zS X G 9 (rW G κ s394) [(0, .ref (κ 0)), (1, iv x1), (2, iv y394_2)] 0 0 394 [] := by
    intro s394 y394_2 Ws394 hy394_2 kJ hI
    have h := h_394  s394 y394_2 Ws394 hy394_2 (TPRp.keep kJ rfl rfl rfl) (CCp.keep kJ rfl rfl rfl rfl rfl rfl rfl) (kJ.R rfl) (kJ.F rfl) (kJ.F rfl) (kJ.F rfl) (kJ.F rfl) (kJ.F rfl) (kJ.F rfl) (fun i => kJ.A (f := 26) (by decide) rfl) hI
    refine z_aload_n hC (pc := 394) 0 dX14_readExpr_394 rfl rfl ?_
    refine z_iload_n hC (pc := 395) 2 dX14_readExpr_395 rfl rfl ?_
    obtain ⟨g16, h⟩ := h
    obtain ⟨p17, h⟩ := h
    obtain ⟨p18, h⟩ := h
    refine y_callVv hC (pc := 396) (As := [iv y394_2]) (qX14_readOptions ih s394 y394_2 gg g16 Ws394 hy394_2 p17 p18) dmX14_readOptions zf14 rOb_0 dX14_readExpr_396 zw3278 rfl rfl (Nat.le_of_ble_eq_true rfl) (Nat.le_of_ble_eq_true rfl) (by omega) (by omega) (Nat.le_of_ble_eq_true rfl) (kk := fun s396 Ws396 qs396 => ?_)
    have h := h s396 Ws396 (TPRp.keep qs396.1 rfl rfl rfl) (CCp.keep qs396.1 rfl rfl rfl rfl rfl rfl rfl) (qs396.1.R rfl) (qs396.1.F rfl) (qs396.1.F rfl) (qs396.1.F rfl) (qs396.1.F rfl) (qs396.1.F rfl) (qs396.1.F rfl) (fun i => qs396.1.A (f := 26) (by decide) rfl) qs396.2
    refine z_aload_n hC (pc := 399) 0 dX14_readExpr_399 rfl rfl ?_
    refine z_aload_n hC (pc := 400) 0 dX14_readExpr_400 rfl rfl ?_
    refine y_get hC (pc := 401) zf14 rOb_0 19 (v := iv (rF s396 0 19)) dX14_readExpr_401 zw2486 (rv_i (Or.inl rfl) rfl) (kk := ?_)
    have h := h (Ws396.f _ _)
    obtain ⟨p19, h⟩ := h
    refine y_callVv hC (pc := 404) (As := [iv (rF s396 0 19)]) (kX14_need l G κ s396 (rF s396 0 19) Ws396 (Ws396.f _ _) p19) dmX14_need zf14 rOb_0 dX14_readExpr_404 zw3136 rfl rfl (Nat.le_of_ble_eq_true rfl) (Nat.le_of_ble_eq_true rfl) (by omega) (by omega) (Nat.le_of_ble_eq_true rfl) (kk := fun s404 Ws404 qs404 => ?_)
    have h := h s404 Ws404 (rNMp.keep qs404.1 rfl rfl rfl rfl rfl) (TPRp.keep qs404.1 rfl rfl rfl) (WNp.keep qs404.1 rfl rfl rfl rfl rfl) (PNp.keep qs404.1 rfl rfl rfl rfl rfl) (CCp.keep qs404.1 rfl rfl rfl rfl rfl rfl rfl) (qs404.1.R rfl) (qs404.1.F rfl) (qs404.1.F rfl) (qs404.1.F rfl) (qs404.1.F rfl) (qs404.1.F rfl) (qs404.1.F rfl) (qs404.1.F rfl) (qs404.1.F rfl) (qs404.1.F rfl) (fun i => qs404.1.A (f := 26) (by decide) rfl) (fun i => qs404.1.A (f := 34) (by decide) rfl) (fun i => qs404.1.A (f := 35) (by decide) rfl) (fun i => qs404.1.A (f := 37) (by decide) rfl) (fun i => qs404.1.A (f := 40) (by decide) rfl) (qs404.1.FG g0 rfl) (qs404.1.FG g0 rfl) (qs404.1.FG g0 rfl) (qs404.1.FG g0 rfl) (qs404.1.FG g0 rfl) (fun i => qs404.1.AG (f := 33) g0 (by decide) rfl) (fun i => qs404.1.AG (f := 34) g0 (by decide) rfl) (fun i => qs404.1.AG (f := 35) g0 (by decide) rfl) (RG.keep (c0 := 0) qs404.1 rfl rfl rfl rfl rfl rfl rfl rfl rfl rfl rfl rfl rfl rfl rfl rfl rfl rfl) qs404.2
    refine z_aload_n hC (pc := 407) 0 dX14_readExpr_407 rfl rfl ?_
    refine z_iconst hC (pc := 408) (v := Int32.ofInt 4) dX14_readExpr_408 (by decide) ?_
    refine z_iload_n hC (pc := 409) 2 dX14_readExpr_409 rfl rfl ?_
    refine z_iload_n hC (pc := 410) 1 dX14_readExpr_410 rfl rfl ?_
    obtain ⟨p20, h⟩ := h
    refine y_callVv hC (pc := 411) (As := [iv 4, iv y394_2, iv x1]) (kX14_note_t l G κ s404 4 y394_2 x1 gg Ws404 (r_lit rfl) hy394_2 hx1 p20) dmX14_note zf14 rOb_0 dX14_readExpr_411 zw3111 rfl rfl (Nat.le_of_ble_eq_true rfl) (Nat.le_of_ble_eq_true rfl) (by omega) (by omega) (Nat.le_of_ble_eq_true rfl) (kk := fun s411 Ws411 qs411 => ?_)
    have h := h s411 Ws411 (rNMp.keep qs411.1 rfl rfl rfl rfl rfl) (TPRp.keep qs411.1 rfl rfl rfl) (PNp.keep qs411.1 rfl rfl rfl rfl rfl) (CCp.keep qs411.1 rfl rfl rfl rfl rfl rfl rfl) (qs411.1.R rfl) (qs411.1.F rfl) (qs411.1.F rfl) (qs411.1.F rfl) (qs411.1.F rfl) (qs411.1.F rfl) (qs411.1.F rfl) (qs411.1.F rfl) (qs411.1.F rfl) (qs411.1.F rfl) (qs411.1.F rfl) (fun i => qs411.1.A (f := 26) (by decide) rfl) (fun i => qs411.1.A (f := 40) (by decide) rfl) (qs411.1.FG g0 rfl) (qs411.1.FG g0 rfl) (qs411.1.FG g0 rfl) (qs411.1.FG g0 rfl) (qs411.1.FG g0 rfl) (fun i => qs411.1.AG (f := 33) g0 (by decide) rfl) (fun i => qs411.1.AG (f := 34) g0 (by decide) rfl) (fun i => qs411.1.AG (f := 35) g0 (by decide) rfl) (fz_keep qs411.1 rfl) qs411.2
    exact y_retv hR dX14_readExpr_414 Ws411 (Nat.le_of_ble_eq_true rfl) (Nat.le_of_ble_eq_true rfl) ⟨(rKeep.tr (rKeep.tr (rKeep.tr (rKeep.tr rKeep.rf kJ rfl rfl rfl rfl rfl) qs396.1 rfl rfl rfl rfl rfl) qs404.1 rfl rfl rfl rfl rfl) qs411.1 rfl rfl rfl rfl rfl), h⟩
  obtain ⟨hT, hF⟩ := h
  refine y_icmp_ne hC (pc := 24) 221 hv19 (r_lit rfl) dX14_readExpr_24 (by decide) (fun c => ?_) (fun c => ?_)
  · have h := hT c
    refine z_iconst hC (pc := 221) (v := Int32.ofInt 0) dX14_readExpr_221 (by decide) ?_
    refine z_istore hC (pc := 222) (lv' := [(4, iv 0), (3, iv v10), (2, iv v5), (0, .ref (κ 0)), (1, iv x1)]) dX14_readExpr_222 (by decide) rfl ?_
    have j224 : ∀ (d224 : Nat), ∀ (s224 : rS) (y224_2 : Int) (y224_3 : Int) (y224_4 : Int), rWF s224 → rng y224_2 → rng y224_3 → rng y224_4 → rKeep 0x6c0a3001c00 0x4100001280 0x13c00000000 0x3ee0000d7f 0 σ s224 → inv_X14_readExpre_224 σ x1 gg g s224 y224_2 y224_3 y224_4 → (mu_X14_readExpre_224 σ x1 gg g s224 y224_2 y224_3 y224_4) ≤ d224 → zS X G 9 (rW G κ s224) [(0, .ref (κ 0)), (1, iv x1), (2, iv y224_2), (3, iv y224_3), (4, iv y224_4)] 0 0 224 [] := by
      intro d224
      induction d224 with
      | zero =>
        intro s224 y224_2 y224_3 y224_4 Ws224 hy224_2 hy224_3 hy224_4 kJ hI hmu
        exact absurd hmu (by have := h_224m  s224 y224_2 y224_3 y224_4 Ws224 hy224_2 hy224_3 hy224_4 (TPRp.keep kJ rfl rfl rfl) (CCp.keep kJ rfl rfl rfl rfl rfl rfl rfl) (kJ.R rfl) (kJ.F rfl) (kJ.F rfl) (kJ.F rfl) (kJ.F rfl) (kJ.F rfl) (kJ.F rfl) (fun i => kJ.A (f := 26) (by decide) rfl) hI; omega)
      | succ d224 ih224 =>
        intro s224 y224_2 y224_3 y224_4 Ws224 hy224_2 hy224_3 hy224_4 kJ hI hmu224
        have h := h_224  s224 y224_2 y224_3 y224_4 Ws224 hy224_2 hy224_3 hy224_4 (TPRp.keep kJ rfl rfl rfl) (CCp.keep kJ rfl rfl rfl rfl rfl rfl rfl) (kJ.R rfl) (kJ.F rfl) (kJ.F rfl) (kJ.F rfl) (kJ.F rfl) (kJ.F rfl) (kJ.F rfl) (fun i => kJ.A (f := 26) (by decide) rfl) hI
        refine z_aload_n hC (pc := 224) 0 dX14_readExpr_224 rfl rfl ?_
        obtain ⟨p21, h⟩ := h
        refine y_callVi hC (pc := 225) (As := []) (kX14_here l G κ s224  Ws224  p21) dmX14_here zf14 rOb_0 dX14_readExpr_225 zw3099 rfl rfl (Nat.le_of_ble_eq_true rfl) (Nat.le_of_ble_eq_true rfl) (by omega) (by omega) (Nat.le_of_ble_eq_true rfl) (kk := fun v225 s225 hv225 Ws225 qs225 => ?_)
        obtain ⟨es225, qs225⟩ := qs225
        have es225 := es225.symm
        subst es225
        have h := h v225 hv225 qs225
        refine z_bipush hC (pc := 228) (v := Int32.ofInt 58) dX14_readExpr_228 (by decide) ?_
        obtain ⟨hT, hF⟩ := h
        refine y_icmp_ne hC (pc := 230) 384 hv225 (r_lit rfl) dX14_readExpr_230 (by decide) (fun c => ?_) (fun c => ?_)
        · have h := hT c
          refine z_aload_n hC (pc := 384) 0 dX14_readExpr_384 rfl rfl ?_
          refine y_get hC (pc := 385) zf14 rOb_0 7 (v := .ref (κ (rR σ 7))) dX14_readExpr_385 zw2475 (rv_g rfl (kJ.R rfl) g0) (kk := ?_)
          refine y_getN hC (pc := 388) zf13 (rOb_k g0) 1 (v := .ref (κ (1000 * ((rR σ 7) + 1) + 1))) dX14_readExpr_388 zw2312 (rv_c rfl) (kk := ?_)
          refine z_iload_n hC (pc := 391) 2 dX14_readExpr_391 rfl rfl ?_
          refine z_iload_n hC (pc := 392) 3 dX14_readExpr_392 rfl rfl ?_
          obtain ⟨b22, h⟩ := h
          refine y_iast hC (pc := 393) (rAr_k g0 rfl rfl) dX14_readExpr_393 b22 (v := y224_3) (kk := ?_)
          have W23 := Ws224.sA (p := (1000 * ((rR σ 7) + 1) + 1)) (i := y224_2) (x := y224_3) hy224_3
          refine z_lvs [0, 1, 2] rfl ?_
          exact j394 (sT s224 (rR σ 7) 1 y224_2 y224_3) y224_2 W23 hy224_2 (rKeep.tr (rKeep.tr rKeep.rf kJ rfl rfl rfl rfl rfl) (rKeep.sAk (f := 1) g0 (by decide)) rfl rfl rfl rfl rfl) h
        · have h := hF c
          refine z_aload_n hC (pc := 233) 0 dX14_readExpr_233 rfl rfl ?_
          refine y_get hC (pc := 234) zf14 rOb_0 10 (v := iv (rF s224 0 10)) dX14_readExpr_234 zw2478 (rv_i (Or.inl rfl) rfl) (kk := ?_)
          have h := h (Ws224.f _ _)
          obtain ⟨hT, hF⟩ := h
          refine y_if_ne hC (pc := 237) 384 (Ws224.f _ _) dX14_readExpr_237 (by decide) (fun c => ?_) (fun c => ?_)
          · have h := hT c
            refine z_aload_n hC (pc := 384) 0 dX14_readExpr_384 rfl rfl ?_
            refine y_get hC (pc := 385) zf14 rOb_0 7 (v := .ref (κ (rR σ 7))) dX14_readExpr_385 zw2475 (rv_g rfl (kJ.R rfl) g0) (kk := ?_)
            refine y_getN hC (pc := 388) zf13 (rOb_k g0) 1 (v := .ref (κ (1000 * ((rR σ 7) + 1) + 1))) dX14_readExpr_388 zw2312 (rv_c rfl) (kk := ?_)
            refine z_iload_n hC (pc := 391) 2 dX14_readExpr_391 rfl rfl ?_
            refine z_iload_n hC (pc := 392) 3 dX14_readExpr_392 rfl rfl ?_
            obtain ⟨b24, h⟩ := h
            refine y_iast hC (pc := 393) (rAr_k g0 rfl rfl) dX14_readExpr_393 b24 (v := y224_3) (kk := ?_)
            have W25 := Ws224.sA (p := (1000 * ((rR σ 7) + 1) + 1)) (i := y224_2) (x := y224_3) hy224_3
            refine z_lvs [0, 1, 2] rfl ?_
            exact j394 (sT s224 (rR σ 7) 1 y224_2 y224_3) y224_2 W25 hy224_2 (rKeep.tr (rKeep.tr rKeep.rf kJ rfl rfl rfl rfl rfl) (rKeep.sAk (f := 1) g0 (by decide)) rfl rfl rfl rfl rfl) h
          · have h := hF c
            refine z_aload_n hC (pc := 240) 0 dX14_readExpr_240 rfl rfl ?_
            refine z_dup hC (pc := 241) dX14_readExpr_241 rfl ?_
            refine y_get hC (pc := 242) zf14 rOb_0 29 (v := iv (rF s224 0 29)) dX14_readExpr_242 zw2496 (rv_i (Or.inl rfl) rfl) (kk := ?_)
            have h := h (Ws224.f _ _)
            refine z_iconst hC (pc := 245) (v := Int32.ofInt 1) dX14_readExpr_245 (by decide) ?_
            refine y_iadd hC (pc := 246) (v := ((rF s224 0 29) + 1)) dX14_readExpr_246 rfl ?_
            obtain ⟨r26, h⟩ := h
            refine y_putI hC (pc := 247) zf14 rOb_0 29 (x := ((rF s224 0 29) + 1)) dX14_readExpr_247 zw2496 (Or.inl rfl) rfl rfl (kk := ?_)
            have W27 := Ws224.sF (q := 0) (f := 29) (x := ((rF s224 0 29) + 1)) r26
            refine z_aload_n hC (pc := 250) 0 dX14_readExpr_250 rfl rfl ?_
            refine z_bipush hC (pc := 251) (v := Int32.ofInt 44) dX14_readExpr_251 (by decide) ?_
            refine z_aload_n hC (pc := 253) 0 dX14_readExpr_253 rfl rfl ?_
            obtain ⟨g28, h⟩ := h
            obtain ⟨p29, h⟩ := h
            obtain ⟨p30, h⟩ := h
            refine y_callVi hC (pc := 254) (As := []) (qX14_readApplied ih (sF s224 0 29 ((rF s224 0 29) + 1)) gg g28 W27  p29 p30) dmX14_readApplied zf14 rOb_0 dX14_readExpr_254 zw3242 rfl rfl (Nat.le_of_ble_eq_true rfl) (Nat.le_of_ble_eq_true rfl) (by omega) (by omega) (Nat.le_of_ble_eq_true rfl) (kk := fun v254 s254 hv254 Ws254 qs254 => ?_)
            have h := h v254 s254 hv254 Ws254 (TPRp.keep qs254.1 rfl rfl rfl) (CCp.keep qs254.1 rfl rfl rfl rfl rfl rfl rfl) (qs254.1.R rfl) (qs254.1.F rfl) (qs254.1.F rfl) (qs254.1.F rfl) (qs254.1.F rfl) (qs254.1.F rfl) (qs254.1.F rfl) (fun i => qs254.1.A (f := 26) (by decide) rfl) qs254.2
            refine z_iconst hC (pc := 257) (v := Int32.ofInt 0) dX14_readExpr_257 (by decide) ?_
            refine z_aload_n hC (pc := 258) 0 dX14_readExpr_258 rfl rfl ?_
            obtain ⟨p31, h⟩ := h
            refine y_callVi hC (pc := 259) (As := []) (kX14_place l G κ s254  Ws254  p31) dmX14_place zf14 rOb_0 dX14_readExpr_259 zw3103 rfl rfl (Nat.le_of_ble_eq_true rfl) (Nat.le_of_ble_eq_true rfl) (by omega) (by omega) (Nat.le_of_ble_eq_true rfl) (kk := fun v259 s259 hv259 Ws259 qs259 => ?_)
            obtain ⟨es259, qs259⟩ := qs259
            have es259 := es259.symm
            subst es259
            have h := h v259 hv259 qs259
            obtain ⟨p32, h⟩ := h
            refine y_callVi hC (pc := 262) (As := [iv 44, iv v254, iv 0, iv v259]) (kX14_node_t l G κ s254 44 v254 0 v259 gg Ws254 (r_lit rfl) hv254 (r_lit rfl) hv259 p32) dmX14_node zf14 rOb_0 dX14_readExpr_262 zw3170 rfl rfl (Nat.le_of_ble_eq_true rfl) (Nat.le_of_ble_eq_true rfl) (by omega) (by omega) (Nat.le_of_ble_eq_true rfl) (kk := fun v262 s262 hv262 Ws262 qs262 => ?_)
            have h := h v262 s262 hv262 Ws262 (rNMp.keep qs262.1 rfl rfl rfl rfl rfl) (TPRp.keep qs262.1 rfl rfl rfl) (WNp.keep qs262.1 rfl rfl rfl rfl rfl) (CCp.keep qs262.1 rfl rfl rfl rfl rfl rfl rfl) (qs262.1.R rfl) (qs262.1.F rfl) (qs262.1.F rfl) (qs262.1.F rfl) (qs262.1.F rfl) (qs262.1.F rfl) (qs262.1.F rfl) (qs262.1.F rfl) (qs262.1.F rfl) (qs262.1.F rfl) (qs262.1.F rfl) (qs262.1.F rfl) (fun i => qs262.1.A (f := 26) (by decide) rfl) (fun i => qs262.1.A (f := 34) (by decide) rfl) (fun i => qs262.1.A (f := 35) (by decide) rfl) (fun i => qs262.1.A (f := 37) (by decide) rfl) (fun i => qs262.1.A (f := 40) (by decide) rfl) (qs262.1.FG g0 rfl) (qs262.1.FG g0 rfl) (qs262.1.FG g0 rfl) (qs262.1.FG g0 rfl) (fun i => qs262.1.AG (f := 33) g0 (by decide) rfl) (fun i => qs262.1.AG (f := 34) g0 (by decide) rfl) (fun i => qs262.1.AG (f := 35) g0 (by decide) rfl) (fz_keep qs262.1 rfl) qs262.2
            refine z_istore hC (pc := 265) (lv' := [(5, iv v262), (0, .ref (κ 0)), (1, iv x1), (2, iv y224_2), (3, iv y224_3), (4, iv y224_4)]) dX14_readExpr_265 (by decide) rfl ?_
            refine z_aload_n hC (pc := 267) 1 dX14_readExpr_267 rfl rfl ?_
            refine y_get hC (pc := 268) zf14 rOb_0 7 (v := .ref (κ (rR σ 7))) dX14_readExpr_268 zw2475 (rv_g rfl ((qs262.1.R rfl).trans ((qs254.1.R rfl).trans (kJ.R rfl))) g0) (kk := ?_)
            refine y_getN hC (pc := 271) zf13 (rOb_k g0) 1 (v := .ref (κ (1000 * ((rR σ 7) + 1) + 1))) dX14_readExpr_271 zw2312 (rv_c rfl) (kk := ?_)
            refine z_iload hC (pc := 274) 0 dX14_readExpr_274 rfl ?_
            obtain ⟨b33, h⟩ := h
            refine y_iald hC (pc := 276) (rAr_k g0 rfl rfl) dX14_readExpr_276 b33 (v := (rA s262 (1000 * ((rR σ 7) + 1) + 1) v262)) rfl (kk := ?_)
            have h := h (Ws262.a _ _)
            refine z_istore hC (pc := 277) (lv' := [(6, iv (rA s262 (1000 * ((rR σ 7) + 1) + 1) v262)), (5, iv v262), (0, .ref (κ 0)), (1, iv x1), (2, iv y224_2), (3, iv y224_3), (4, iv y224_4)]) dX14_readExpr_277 (by decide) rfl ?_
            refine z_aload_n hC (pc := 279) 2 dX14_readExpr_279 rfl rfl ?_
            obtain ⟨p34, h⟩ := h
            refine y_callVv hC (pc := 280) (As := []) (kX14_blanks l G κ s262  Ws262  p34) dmX14_blanks zf14 rOb_0 dX14_readExpr_280 zw3119 rfl rfl (Nat.le_of_ble_eq_true rfl) (Nat.le_of_ble_eq_true rfl) (by omega) (by omega) (Nat.le_of_ble_eq_true rfl) (kk := fun s280 Ws280 qs280 => ?_)
            have h := h s280 Ws280 (rNMp.keep qs280.1 rfl rfl rfl rfl rfl) (TPRp.keep qs280.1 rfl rfl rfl) (WNp.keep qs280.1 rfl rfl rfl rfl rfl) (PNp.keep qs280.1 rfl rfl rfl rfl rfl) (CCp.keep qs280.1 rfl rfl rfl rfl rfl rfl rfl) (qs280.1.R rfl) (qs280.1.F rfl) (qs280.1.F rfl) (qs280.1.F rfl) (qs280.1.F rfl) (qs280.1.F rfl) (qs280.1.F rfl) (qs280.1.F rfl) (qs280.1.F rfl) (qs280.1.F rfl) (qs280.1.F rfl) (fun i => qs280.1.A (f := 26) (by decide) rfl) (fun i => qs280.1.A (f := 34) (by decide) rfl) (fun i => qs280.1.A (f := 35) (by decide) rfl) (fun i => qs280.1.A (f := 37) (by decide) rfl) (fun i => qs280.1.A (f := 40) (by decide) rfl) (qs280.1.FG g0 rfl) (qs280.1.FG g0 rfl) (qs280.1.FG g0 rfl) (qs280.1.FG g0 rfl) (qs280.1.FG g0 rfl) (fun i => qs280.1.AG (f := 33) g0 (by decide) rfl) (fun i => qs280.1.AG (f := 34) g0 (by decide) rfl) (fun i => qs280.1.AG (f := 35) g0 (by decide) rfl) (fz_keep qs280.1 rfl) (RG.keep (c0 := 0) qs280.1 rfl rfl rfl rfl rfl rfl rfl rfl rfl rfl rfl rfl rfl rfl rfl rfl rfl rfl) qs280.2
            have j283 : ∀ (d283 : Nat), ∀ (s283 : rS) (y283_2 : Int) (y283_3 : Int) (y283_4 : Int) (y283_5 : Int) (y283_6 : Int), rWF s283 → rng y283_2 → rng y283_3 → rng y283_4 → rng y283_5 → rng y283_6 → rKeep 0x6c0a3001c00 0x4100001280 0x13c00000000 0x3ee0000d7f 0 σ s283 → inv_X14_readExpre_283 σ x1 gg g (mu_X14_readExpre_224 σ x1 gg g s224 y224_2 y224_3 y224_4) s283 y283_2 y283_3 y283_4 y283_5 y283_6 → (mu_X14_readExpre_283 σ x1 gg g s283 y283_2 y283_3 y283_4 y283_5 y283_6) ≤ d283 → zS X G 9 (rW G κ s283) [(0, .ref (κ 0)), (1, iv x1), (2, iv y283_2), (3, iv y283_3), (4, iv y283_4), (5, iv y283_5), (6, iv y283_6)] 0 0 283 [] := by
              intro d283
              induction d283 with
              | zero =>
                intro s283 y283_2 y283_3 y283_4 y283_5 y283_6 Ws283 hy283_2 hy283_3 hy283_4 hy283_5 hy283_6 kJ hI hmu
                exact absurd hmu (by have := h_283m (mu_X14_readExpre_224 σ x1 gg g s224 y224_2 y224_3 y224_4) s283 y283_2 y283_3 y283_4 y283_5 y283_6 Ws283 hy283_2 hy283_3 hy283_4 hy283_5 hy283_6 (TPRp.keep kJ rfl rfl rfl) (CCp.keep kJ rfl rfl rfl rfl rfl rfl rfl) (kJ.R rfl) (kJ.F rfl) (kJ.F rfl) (kJ.F rfl) (kJ.F rfl) (kJ.F rfl) (kJ.F rfl) (fun i => kJ.A (f := 26) (by decide) rfl) hI; omega)
              | succ d283 ih283 =>
                intro s283 y283_2 y283_3 y283_4 y283_5 y283_6 Ws283 hy283_2 hy283_3 hy283_4 hy283_5 hy283_6 kJ hI hmu283
                have h := h_283 (mu_X14_readExpre_224 σ x1 gg g s224 y224_2 y224_3 y224_4) s283 y283_2 y283_3 y283_4 y283_5 y283_6 Ws283 hy283_2 hy283_3 hy283_4 hy283_5 hy283_6 (TPRp.keep kJ rfl rfl rfl) (CCp.keep kJ rfl rfl rfl rfl rfl rfl rfl) (kJ.R rfl) (kJ.F rfl) (kJ.F rfl) (kJ.F rfl) (kJ.F rfl) (kJ.F rfl) (kJ.F rfl) (fun i => kJ.A (f := 26) (by decide) rfl) hI
                refine z_aload_n hC (pc := 283) 0 dX14_readExpr_283 rfl rfl ?_
                obtain ⟨p35, h⟩ := h
                refine y_callVi hC (pc := 284) (As := []) (kX14_here l G κ s283  Ws283  p35) dmX14_here zf14 rOb_0 dX14_readExpr_284 zw3099 rfl rfl (Nat.le_of_ble_eq_true rfl) (Nat.le_of_ble_eq_true rfl) (by omega) (by omega) (Nat.le_of_ble_eq_true rfl) (kk := fun v284 s284 hv284 Ws284 qs284 => ?_)
                obtain ⟨es284, qs284⟩ := qs284
                have es284 := es284.symm
                subst es284
                have h := h v284 hv284 qs284
                refine z_bipush hC (pc := 287) (v := Int32.ofInt 44) dX14_readExpr_287 (by decide) ?_
                obtain ⟨hT, hF⟩ := h
                refine y_icmp_ne hC (pc := 289) 346 hv284 (r_lit rfl) dX14_readExpr_289 (by decide) (fun c => ?_) (fun c => ?_)
                · have h := hT c
                  refine z_iload hC (pc := 346) 4 dX14_readExpr_346 rfl ?_
                  obtain ⟨hT, hF⟩ := h
                  refine y_if_ne hC (pc := 348) 365 hy283_4 dX14_readExpr_348 (by decide) (fun c => ?_) (fun c => ?_)
                  · have h := hT c
                    refine z_aload_n hC (pc := 365) 0 dX14_readExpr_365 rfl rfl ?_
                    refine y_get hC (pc := 366) zf14 rOb_0 7 (v := .ref (κ (rR σ 7))) dX14_readExpr_366 zw2475 (rv_g rfl (kJ.R rfl) g0) (kk := ?_)
                    refine y_getN hC (pc := 369) zf13 (rOb_k g0) 5 (v := .ref (κ (1000 * ((rR σ 7) + 1) + 5))) dX14_readExpr_369 zw2320 (rv_c rfl) (kk := ?_)
                    refine z_iload hC (pc := 372) 4 dX14_readExpr_372 rfl ?_
                    refine z_iload hC (pc := 374) 5 dX14_readExpr_374 rfl ?_
                    obtain ⟨b36, h⟩ := h
                    refine y_iast hC (pc := 376) (rAr_k g0 rfl rfl) dX14_readExpr_376 b36 (v := y283_5) (kk := ?_)
                    have W37 := Ws283.sA (p := (1000 * ((rR σ 7) + 1) + 5)) (i := y283_4) (x := y283_5) hy283_5
                    refine z_iload hC (pc := 377) 5 dX14_readExpr_377 rfl ?_
                    refine z_istore hC (pc := 379) (lv' := [(4, iv y283_5), (0, .ref (κ 0)), (1, iv x1), (2, iv y283_2), (3, iv y283_3), (5, iv y283_5), (6, iv y283_6)]) dX14_readExpr_379 (by decide) rfl ?_
                    refine z_goto hC (pc := 381) 224 dX14_readExpr_381 (by decide) ?_
                    refine z_lvs [1, 2, 3, 4, 0] rfl ?_
                    obtain ⟨hI, hm⟩ := h
                    exact ih224 (sT s283 (rR σ 7) 5 y283_4 y283_5) y283_2 y283_3 y283_5 W37 hy283_2 hy283_3 hy283_5 (rKeep.tr (rKeep.tr rKeep.rf kJ rfl rfl rfl rfl rfl) (rKeep.sAk (f := 5) g0 (by decide)) rfl rfl rfl rfl rfl) hI (by omega)
                  · have h := hF c
                    refine z_aload_n hC (pc := 351) 0 dX14_readExpr_351 rfl rfl ?_
                    refine y_get hC (pc := 352) zf14 rOb_0 7 (v := .ref (κ (rR σ 7))) dX14_readExpr_352 zw2475 (rv_g rfl (kJ.R rfl) g0) (kk := ?_)
                    refine y_getN hC (pc := 355) zf13 (rOb_k g0) 3 (v := .ref (κ (1000 * ((rR σ 7) + 1) + 3))) dX14_readExpr_355 zw2316 (rv_c rfl) (kk := ?_)
                    refine z_iload_n hC (pc := 358) 3 dX14_readExpr_358 rfl rfl ?_
                    refine z_iload hC (pc := 359) 5 dX14_readExpr_359 rfl ?_
                    obtain ⟨b38, h⟩ := h
                    refine y_iast hC (pc := 361) (rAr_k g0 rfl rfl) dX14_readExpr_361 b38 (v := y283_5) (kk := ?_)
                    have W39 := Ws283.sA (p := (1000 * ((rR σ 7) + 1) + 3)) (i := y283_3) (x := y283_5) hy283_5
                    refine z_goto hC (pc := 362) 377 dX14_readExpr_362 (by decide) ?_
                    refine z_iload hC (pc := 377) 5 dX14_readExpr_377 rfl ?_
                    refine z_istore hC (pc := 379) (lv' := [(4, iv y283_5), (0, .ref (κ 0)), (1, iv x1), (2, iv y283_2), (3, iv y283_3), (5, iv y283_5), (6, iv y283_6)]) dX14_readExpr_379 (by decide) rfl ?_
                    refine z_goto hC (pc := 381) 224 dX14_readExpr_381 (by decide) ?_
                    refine z_lvs [1, 2, 3, 4, 0] rfl ?_
                    obtain ⟨hI, hm⟩ := h
                    exact ih224 (sT s283 (rR σ 7) 3 y283_3 y283_5) y283_2 y283_3 y283_5 W39 hy283_2 hy283_3 hy283_5 (rKeep.tr (rKeep.tr rKeep.rf kJ rfl rfl rfl rfl rfl) (rKeep.sAk (f := 3) g0 (by decide)) rfl rfl rfl rfl rfl) hI (by omega)
                · have h := hF c
                  refine z_aload_n hC (pc := 292) 0 dX14_readExpr_292 rfl rfl ?_
                  refine y_get hC (pc := 293) zf14 rOb_0 10 (v := iv (rF s283 0 10)) dX14_readExpr_293 zw2478 (rv_i (Or.inl rfl) rfl) (kk := ?_)
                  have h := h (Ws283.f _ _)
                  obtain ⟨hT, hF⟩ := h
                  refine y_if_ne hC (pc := 296) 346 (Ws283.f _ _) dX14_readExpr_296 (by decide) (fun c => ?_) (fun c => ?_)
                  · have h := hT c
                    refine z_iload hC (pc := 346) 4 dX14_readExpr_346 rfl ?_
                    obtain ⟨hT, hF⟩ := h
                    refine y_if_ne hC (pc := 348) 365 hy283_4 dX14_readExpr_348 (by decide) (fun c => ?_) (fun c => ?_)
                    · have h := hT c
                      refine z_aload_n hC (pc := 365) 0 dX14_readExpr_365 rfl rfl ?_
                      refine y_get hC (pc := 366) zf14 rOb_0 7 (v := .ref (κ (rR σ 7))) dX14_readExpr_366 zw2475 (rv_g rfl (kJ.R rfl) g0) (kk := ?_)
                      refine y_getN hC (pc := 369) zf13 (rOb_k g0) 5 (v := .ref (κ (1000 * ((rR σ 7) + 1) + 5))) dX14_readExpr_369 zw2320 (rv_c rfl) (kk := ?_)
                      refine z_iload hC (pc := 372) 4 dX14_readExpr_372 rfl ?_
                      refine z_iload hC (pc := 374) 5 dX14_readExpr_374 rfl ?_
                      obtain ⟨b40, h⟩ := h
                      refine y_iast hC (pc := 376) (rAr_k g0 rfl rfl) dX14_readExpr_376 b40 (v := y283_5) (kk := ?_)
                      have W41 := Ws283.sA (p := (1000 * ((rR σ 7) + 1) + 5)) (i := y283_4) (x := y283_5) hy283_5
                      refine z_iload hC (pc := 377) 5 dX14_readExpr_377 rfl ?_
                      refine z_istore hC (pc := 379) (lv' := [(4, iv y283_5), (0, .ref (κ 0)), (1, iv x1), (2, iv y283_2), (3, iv y283_3), (5, iv y283_5), (6, iv y283_6)]) dX14_readExpr_379 (by decide) rfl ?_
                      refine z_goto hC (pc := 381) 224 dX14_readExpr_381 (by decide) ?_
                      refine z_lvs [1, 2, 3, 4, 0] rfl ?_
                      obtain ⟨hI, hm⟩ := h
                      exact ih224 (sT s283 (rR σ 7) 5 y283_4 y283_5) y283_2 y283_3 y283_5 W41 hy283_2 hy283_3 hy283_5 (rKeep.tr (rKeep.tr rKeep.rf kJ rfl rfl rfl rfl rfl) (rKeep.sAk (f := 5) g0 (by decide)) rfl rfl rfl rfl rfl) hI (by omega)
                    · have h := hF c
                      refine z_aload_n hC (pc := 351) 0 dX14_readExpr_351 rfl rfl ?_
                      refine y_get hC (pc := 352) zf14 rOb_0 7 (v := .ref (κ (rR σ 7))) dX14_readExpr_352 zw2475 (rv_g rfl (kJ.R rfl) g0) (kk := ?_)
                      refine y_getN hC (pc := 355) zf13 (rOb_k g0) 3 (v := .ref (κ (1000 * ((rR σ 7) + 1) + 3))) dX14_readExpr_355 zw2316 (rv_c rfl) (kk := ?_)
                      refine z_iload_n hC (pc := 358) 3 dX14_readExpr_358 rfl rfl ?_
                      refine z_iload hC (pc := 359) 5 dX14_readExpr_359 rfl ?_
                      obtain ⟨b42, h⟩ := h
                      refine y_iast hC (pc := 361) (rAr_k g0 rfl rfl) dX14_readExpr_361 b42 (v := y283_5) (kk := ?_)
                      have W43 := Ws283.sA (p := (1000 * ((rR σ 7) + 1) + 3)) (i := y283_3) (x := y283_5) hy283_5
                      refine z_goto hC (pc := 362) 377 dX14_readExpr_362 (by decide) ?_
                      refine z_iload hC (pc := 377) 5 dX14_readExpr_377 rfl ?_
                      refine z_istore hC (pc := 379) (lv' := [(4, iv y283_5), (0, .ref (κ 0)), (1, iv x1), (2, iv y283_2), (3, iv y283_3), (5, iv y283_5), (6, iv y283_6)]) dX14_readExpr_379 (by decide) rfl ?_
                      refine z_goto hC (pc := 381) 224 dX14_readExpr_381 (by decide) ?_
                      refine z_lvs [1, 2, 3, 4, 0] rfl ?_
                      obtain ⟨hI, hm⟩ := h
                      exact ih224 (sT s283 (rR σ 7) 3 y283_3 y283_5) y283_2 y283_3 y283_5 W43 hy283_2 hy283_3 hy283_5 (rKeep.tr (rKeep.tr rKeep.rf kJ rfl rfl rfl rfl rfl) (rKeep.sAk (f := 3) g0 (by decide)) rfl rfl rfl rfl rfl) hI (by omega)
                  · have h := hF c
                    refine z_aload_n hC (pc := 299) 0 dX14_readExpr_299 rfl rfl ?_
                    refine z_dup hC (pc := 300) dX14_readExpr_300 rfl ?_
                    refine y_get hC (pc := 301) zf14 rOb_0 29 (v := iv (rF s283 0 29)) dX14_readExpr_301 zw2496 (rv_i (Or.inl rfl) rfl) (kk := ?_)
                    have h := h (Ws283.f _ _)
                    refine z_iconst hC (pc := 304) (v := Int32.ofInt 1) dX14_readExpr_304 (by decide) ?_
                    refine y_iadd hC (pc := 305) (v := ((rF s283 0 29) + 1)) dX14_readExpr_305 rfl ?_
                    obtain ⟨r44, h⟩ := h
                    refine y_putI hC (pc := 306) zf14 rOb_0 29 (x := ((rF s283 0 29) + 1)) dX14_readExpr_306 zw2496 (Or.inl rfl) rfl rfl (kk := ?_)
                    have W45 := Ws283.sF (q := 0) (f := 29) (x := ((rF s283 0 29) + 1)) r44
                    refine z_aload_n hC (pc := 309) 0 dX14_readExpr_309 rfl rfl ?_
                    obtain ⟨g46, h⟩ := h
                    obtain ⟨p47, h⟩ := h
                    obtain ⟨p48, h⟩ := h
                    refine y_callVi hC (pc := 310) (As := []) (qX14_readApplied ih (sF s283 0 29 ((rF s283 0 29) + 1)) gg g46 W45  p47 p48) dmX14_readApplied zf14 rOb_0 dX14_readExpr_310 zw3242 rfl rfl (Nat.le_of_ble_eq_true rfl) (Nat.le_of_ble_eq_true rfl) (by omega) (by omega) (Nat.le_of_ble_eq_true rfl) (kk := fun v310 s310 hv310 Ws310 qs310 => ?_)
                    have h := h v310 s310 hv310 Ws310 (TPRp.keep qs310.1 rfl rfl rfl) (CCp.keep qs310.1 rfl rfl rfl rfl rfl rfl rfl) (qs310.1.R rfl) (qs310.1.F rfl) (qs310.1.F rfl) (qs310.1.F rfl) (qs310.1.F rfl) (qs310.1.F rfl) (qs310.1.F rfl) (fun i => qs310.1.A (f := 26) (by decide) rfl) qs310.2
                    refine z_istore hC (pc := 313) (lv' := [(7, iv v310), (0, .ref (κ 0)), (1, iv x1), (2, iv y283_2), (3, iv y283_3), (4, iv y283_4), (5, iv y283_5), (6, iv y283_6)]) dX14_readExpr_313 (by decide) rfl ?_
                    refine z_aload_n hC (pc := 315) 1 dX14_readExpr_315 rfl rfl ?_
                    refine y_get hC (pc := 316) zf14 rOb_0 10 (v := iv (rF s310 0 10)) dX14_readExpr_316 zw2478 (rv_i (Or.inl rfl) rfl) (kk := ?_)
                    have h := h (Ws310.f _ _)
                    obtain ⟨hT, hF⟩ := h
                    refine y_if_eq hC (pc := 319) 323 (Ws310.f _ _) dX14_readExpr_319 (by decide) (fun c => ?_) (fun c => ?_)
                    · have h := hT c
                      refine z_aload_n hC (pc := 323) 1 dX14_readExpr_323 rfl rfl ?_
                      refine y_get hC (pc := 324) zf14 rOb_0 7 (v := .ref (κ (rR σ 7))) dX14_readExpr_324 zw2475 (rv_g rfl ((qs310.1.R rfl).trans (kJ.R rfl)) g0) (kk := ?_)
                      refine y_getN hC (pc := 327) zf13 (rOb_k g0) 5 (v := .ref (κ (1000 * ((rR σ 7) + 1) + 5))) dX14_readExpr_327 zw2320 (rv_c rfl) (kk := ?_)
                      refine z_iload hC (pc := 330) 7 dX14_readExpr_330 rfl ?_
                      refine z_iload hC (pc := 332) 0 dX14_readExpr_332 rfl ?_
                      obtain ⟨b49, h⟩ := h
                      refine y_iast hC (pc := 334) (rAr_k g0 rfl rfl) dX14_readExpr_334 b49 (v := v310) (kk := ?_)
                      have W50 := Ws310.sA (p := (1000 * ((rR σ 7) + 1) + 5)) (i := y283_6) (x := v310) hv310
                      refine z_iload hC (pc := 335) 0 dX14_readExpr_335 rfl ?_
                      refine z_istore hC (pc := 337) (lv' := [(6, iv v310), (7, iv v310), (0, .ref (κ 0)), (1, iv x1), (2, iv y283_2), (3, iv y283_3), (4, iv y283_4), (5, iv y283_5)]) dX14_readExpr_337 (by decide) rfl ?_
                      refine z_aload_n hC (pc := 339) 2 dX14_readExpr_339 rfl rfl ?_
                      obtain ⟨p51, h⟩ := h
                      refine y_callVv hC (pc := 340) (As := []) (kX14_blanks l G κ (sT s310 (rR σ 7) 5 y283_6 v310)  W50  p51) dmX14_blanks zf14 rOb_0 dX14_readExpr_340 zw3119 rfl rfl (Nat.le_of_ble_eq_true rfl) (Nat.le_of_ble_eq_true rfl) (by omega) (by omega) (Nat.le_of_ble_eq_true rfl) (kk := fun s340 Ws340 qs340 => ?_)
                      have h := h s340 Ws340 (rNMp.keep qs340.1 rfl rfl rfl rfl rfl) (TPRp.keep qs340.1 rfl rfl rfl) (WNp.keep qs340.1 rfl rfl rfl rfl rfl) (PNp.keep qs340.1 rfl rfl rfl rfl rfl) (CCp.keep qs340.1 rfl rfl rfl rfl rfl rfl rfl) (qs340.1.R rfl) (qs340.1.F rfl) (qs340.1.F rfl) (qs340.1.F rfl) (qs340.1.F rfl) (qs340.1.F rfl) (qs340.1.F rfl) (qs340.1.F rfl) (qs340.1.F rfl) (qs340.1.F rfl) (qs340.1.F rfl) (fun i => qs340.1.A (f := 26) (by decide) rfl) (fun i => qs340.1.A (f := 34) (by decide) rfl) (fun i => qs340.1.A (f := 35) (by decide) rfl) (fun i => qs340.1.A (f := 37) (by decide) rfl) (fun i => qs340.1.A (f := 40) (by decide) rfl) (qs340.1.FG g0 rfl) (qs340.1.FG g0 rfl) (qs340.1.FG g0 rfl) (qs340.1.FG g0 rfl) (qs340.1.FG g0 rfl) (fun i => qs340.1.AG (f := 33) g0 (by decide) rfl) (fun i => qs340.1.AG (f := 34) g0 (by decide) rfl) (fun i => qs340.1.AG (f := 35) g0 (by decide) rfl) (fz_keep qs340.1 rfl) (RG.keep (c0 := 0) qs340.1 rfl rfl rfl rfl rfl rfl rfl rfl rfl rfl rfl rfl rfl rfl rfl rfl rfl rfl) qs340.2
                      refine z_goto hC (pc := 343) 283 dX14_readExpr_343 (by decide) ?_
                      refine z_lvs [2, 3, 4, 5, 6, 7, 0] rfl ?_
                      obtain ⟨hI, hm⟩ := h
                      exact ih283 s340 y283_2 y283_3 y283_4 y283_5 v310 Ws340 hy283_2 hy283_3 hy283_4 hy283_5 hv310 (rKeep.tr (rKeep.tr (rKeep.tr (rKeep.tr (rKeep.tr rKeep.rf kJ rfl rfl rfl rfl rfl) (rKeep.sF0 (f := 29)) rfl rfl rfl rfl rfl) qs310.1 rfl rfl rfl rfl rfl) (rKeep.sAk (f := 5) g0 (by decide)) rfl rfl rfl rfl rfl) qs340.1 rfl rfl rfl rfl rfl) hI (by omega)
                    · have h := hF c
                      exact y_retv hR dX14_readExpr_322 Ws310 (Nat.le_of_ble_eq_true rfl) (Nat.le_of_ble_eq_true rfl) ⟨(rKeep.tr (rKeep.tr (rKeep.tr rKeep.rf kJ rfl rfl rfl rfl rfl) (rKeep.sF0 (f := 29)) rfl rfl rfl rfl rfl) qs310.1 rfl rfl rfl rfl rfl), h⟩
            refine z_lvs [2, 3, 4, 5, 6, 1, 0] rfl ?_
            exact j283 _ s280 y224_2 y224_3 y224_4 v262 (rA s262 (1000 * ((rR σ 7) + 1) + 1) v262) Ws280 hy224_2 hy224_3 hy224_4 hv262 (Ws262.a _ _) (rKeep.tr (rKeep.tr (rKeep.tr (rKeep.tr (rKeep.tr rKeep.rf kJ rfl rfl rfl rfl rfl) (rKeep.sF0 (f := 29)) rfl rfl rfl rfl rfl) qs254.1 rfl rfl rfl rfl rfl) qs262.1 rfl rfl rfl rfl rfl) qs280.1 rfl rfl rfl rfl rfl) h (Nat.le_refl _)
    refine z_lvs [3, 4, 2, 1, 0] rfl ?_
    exact j224 _ s15 v5 v10 0 Ws15 hv5 hv10 (r_lit rfl) (rKeep.tr (rKeep.tr (rKeep.tr rKeep.rf qs5.1 rfl rfl rfl rfl rfl) qs10.1 rfl rfl rfl rfl rfl) qs15.1 rfl rfl rfl rfl rfl) h (Nat.le_refl _)
  · have h := hF c
    refine z_iconst hC (pc := 27) (v := Int32.ofInt 1) dX14_readExpr_27 (by decide) ?_
    refine z_istore hC (pc := 28) (lv' := [(4, iv 1), (3, iv v10), (2, iv v5), (0, .ref (κ 0)), (1, iv x1)]) dX14_readExpr_28 (by decide) rfl ?_
    refine z_iload_n hC (pc := 30) 1 dX14_readExpr_30 rfl rfl ?_
    refine z_istore hC (pc := 31) (lv' := [(5, iv v10), (4, iv 1), (3, iv v10), (2, iv v5), (0, .ref (κ 0)), (1, iv x1)]) dX14_readExpr_31 (by decide) rfl ?_
    have j33 : ∀ (d33 : Nat), ∀ (s33 : rS) (y33_2 : Int) (y33_3 : Int) (y33_4 : Int) (y33_5 : Int), rWF s33 → rng y33_2 → rng y33_3 → rng y33_4 → rng y33_5 → rKeep 0x6c0a3001c00 0x4100001280 0x13c00000000 0x3ee0000d7f 0 σ s33 → inv_X14_readExpre_33 σ x1 gg g s33 y33_2 y33_3 y33_4 y33_5 → (mu_X14_readExpre_33 σ x1 gg g s33 y33_2 y33_3 y33_4 y33_5) ≤ d33 → zS X G 9 (rW G κ s33) [(0, .ref (κ 0)), (1, iv x1), (2, iv y33_2), (3, iv y33_3), (4, iv y33_4), (5, iv y33_5)] 0 0 33 [] := by
      intro d33
      induction d33 with
      | zero =>
        intro s33 y33_2 y33_3 y33_4 y33_5 Ws33 hy33_2 hy33_3 hy33_4 hy33_5 kJ hI hmu
        exact absurd hmu (by have := h_33m  s33 y33_2 y33_3 y33_4 y33_5 Ws33 hy33_2 hy33_3 hy33_4 hy33_5 (TPRp.keep kJ rfl rfl rfl) (CCp.keep kJ rfl rfl rfl rfl rfl rfl rfl) (kJ.R rfl) (kJ.F rfl) (kJ.F rfl) (kJ.F rfl) (kJ.F rfl) (kJ.F rfl) (kJ.F rfl) (fun i => kJ.A (f := 26) (by decide) rfl) hI; omega)
      | succ d33 ih33 =>
        intro s33 y33_2 y33_3 y33_4 y33_5 Ws33 hy33_2 hy33_3 hy33_4 hy33_5 kJ hI hmu33
        have h := h_33  s33 y33_2 y33_3 y33_4 y33_5 Ws33 hy33_2 hy33_3 hy33_4 hy33_5 (TPRp.keep kJ rfl rfl rfl) (CCp.keep kJ rfl rfl rfl rfl rfl rfl rfl) (kJ.R rfl) (kJ.F rfl) (kJ.F rfl) (kJ.F rfl) (kJ.F rfl) (kJ.F rfl) (kJ.F rfl) (fun i => kJ.A (f := 26) (by decide) rfl) hI
        refine z_aload_n hC (pc := 33) 0 dX14_readExpr_33 rfl rfl ?_
        obtain ⟨p52, h⟩ := h
        refine y_callVi hC (pc := 34) (As := []) (kX14_here l G κ s33  Ws33  p52) dmX14_here zf14 rOb_0 dX14_readExpr_34 zw3099 rfl rfl (Nat.le_of_ble_eq_true rfl) (Nat.le_of_ble_eq_true rfl) (by omega) (by omega) (Nat.le_of_ble_eq_true rfl) (kk := fun v34 s34 hv34 Ws34 qs34 => ?_)
        obtain ⟨es34, qs34⟩ := qs34
        have es34 := es34.symm
        subst es34
        have h := h v34 hv34 qs34
        refine z_bipush hC (pc := 37) (v := Int32.ofInt 44) dX14_readExpr_37 (by decide) ?_
        obtain ⟨hT, hF⟩ := h
        refine y_icmp_ne hC (pc := 39) 99 hv34 (r_lit rfl) dX14_readExpr_39 (by decide) (fun c => ?_) (fun c => ?_)
        · have h := hT c
          refine z_aload_n hC (pc := 99) 0 dX14_readExpr_99 rfl rfl ?_
          refine z_bipush hC (pc := 100) (v := Int32.ofInt 58) dX14_readExpr_100 (by decide) ?_
          obtain ⟨p53, h⟩ := h
          refine y_callVv hC (pc := 102) (As := [iv 58]) (kX14_need l G κ s33 58 Ws33 (r_lit rfl) p53) dmX14_need zf14 rOb_0 dX14_readExpr_102 zw3136 rfl rfl (Nat.le_of_ble_eq_true rfl) (Nat.le_of_ble_eq_true rfl) (by omega) (by omega) (Nat.le_of_ble_eq_true rfl) (kk := fun s102 Ws102 qs102 => ?_)
          have h := h s102 Ws102 (rNMp.keep qs102.1 rfl rfl rfl rfl rfl) (TPRp.keep qs102.1 rfl rfl rfl) (WNp.keep qs102.1 rfl rfl rfl rfl rfl) (PNp.keep qs102.1 rfl rfl rfl rfl rfl) (CCp.keep qs102.1 rfl rfl rfl rfl rfl rfl rfl) (qs102.1.R rfl) (qs102.1.F rfl) (qs102.1.F rfl) (qs102.1.F rfl) (qs102.1.F rfl) (qs102.1.F rfl) (qs102.1.F rfl) (qs102.1.F rfl) (qs102.1.F rfl) (qs102.1.F rfl) (fun i => qs102.1.A (f := 26) (by decide) rfl) (fun i => qs102.1.A (f := 34) (by decide) rfl) (fun i => qs102.1.A (f := 35) (by decide) rfl) (fun i => qs102.1.A (f := 37) (by decide) rfl) (fun i => qs102.1.A (f := 40) (by decide) rfl) (qs102.1.FG g0 rfl) (qs102.1.FG g0 rfl) (qs102.1.FG g0 rfl) (qs102.1.FG g0 rfl) (qs102.1.FG g0 rfl) (fun i => qs102.1.AG (f := 33) g0 (by decide) rfl) (fun i => qs102.1.AG (f := 34) g0 (by decide) rfl) (fun i => qs102.1.AG (f := 35) g0 (by decide) rfl) (RG.keep (c0 := 0) qs102.1 rfl rfl rfl rfl rfl rfl rfl rfl rfl rfl rfl rfl rfl rfl rfl rfl rfl rfl) qs102.2
          refine z_aload_n hC (pc := 105) 0 dX14_readExpr_105 rfl rfl ?_
          obtain ⟨p54, h⟩ := h
          refine y_callVv hC (pc := 106) (As := []) (kX14_blanks l G κ s102  Ws102  p54) dmX14_blanks zf14 rOb_0 dX14_readExpr_106 zw3119 rfl rfl (Nat.le_of_ble_eq_true rfl) (Nat.le_of_ble_eq_true rfl) (by omega) (by omega) (Nat.le_of_ble_eq_true rfl) (kk := fun s106 Ws106 qs106 => ?_)
          have h := h s106 Ws106 (rNMp.keep qs106.1 rfl rfl rfl rfl rfl) (TPRp.keep qs106.1 rfl rfl rfl) (WNp.keep qs106.1 rfl rfl rfl rfl rfl) (PNp.keep qs106.1 rfl rfl rfl rfl rfl) (CCp.keep qs106.1 rfl rfl rfl rfl rfl rfl rfl) (qs106.1.R rfl) (qs106.1.F rfl) (qs106.1.F rfl) (qs106.1.F rfl) (qs106.1.F rfl) (qs106.1.F rfl) (qs106.1.F rfl) (qs106.1.F rfl) (qs106.1.F rfl) (qs106.1.F rfl) (qs106.1.F rfl) (fun i => qs106.1.A (f := 26) (by decide) rfl) (fun i => qs106.1.A (f := 34) (by decide) rfl) (fun i => qs106.1.A (f := 35) (by decide) rfl) (fun i => qs106.1.A (f := 37) (by decide) rfl) (fun i => qs106.1.A (f := 40) (by decide) rfl) (qs106.1.FG g0 rfl) (qs106.1.FG g0 rfl) (qs106.1.FG g0 rfl) (qs106.1.FG g0 rfl) (qs106.1.FG g0 rfl) (fun i => qs106.1.AG (f := 33) g0 (by decide) rfl) (fun i => qs106.1.AG (f := 34) g0 (by decide) rfl) (fun i => qs106.1.AG (f := 35) g0 (by decide) rfl) (fz_keep qs106.1 rfl) (RG.keep (c0 := 0) qs106.1 rfl rfl rfl rfl rfl rfl rfl rfl rfl rfl rfl rfl rfl rfl rfl rfl rfl rfl) qs106.2
          refine z_aload_n hC (pc := 109) 0 dX14_readExpr_109 rfl rfl ?_
          refine y_get hC (pc := 110) zf14 rOb_0 10 (v := iv (rF s106 0 10)) dX14_readExpr_110 zw2478 (rv_i (Or.inl rfl) rfl) (kk := ?_)
          have h := h (Ws106.f _ _)
          obtain ⟨hT, hF⟩ := h
          refine y_if_eq hC (pc := 113) 117 (Ws106.f _ _) dX14_readExpr_113 (by decide) (fun c => ?_) (fun c => ?_)
          · have h := hT c
            refine z_aload_n hC (pc := 117) 0 dX14_readExpr_117 rfl rfl ?_
            obtain ⟨p55, h⟩ := h
            refine y_callVi hC (pc := 118) (As := []) (kX14_here l G κ s106  Ws106  p55) dmX14_here zf14 rOb_0 dX14_readExpr_118 zw3099 rfl rfl (Nat.le_of_ble_eq_true rfl) (Nat.le_of_ble_eq_true rfl) (by omega) (by omega) (Nat.le_of_ble_eq_true rfl) (kk := fun v118 s118 hv118 Ws118 qs118 => ?_)
            obtain ⟨es118, qs118⟩ := qs118
            have es118 := es118.symm
            subst es118
            have h := h v118 hv118 qs118
            refine z_bipush hC (pc := 121) (v := Int32.ofInt 123) dX14_readExpr_121 (by decide) ?_
            obtain ⟨hT, hF⟩ := h
            refine y_icmp_eq hC (pc := 123) 136 hv118 (r_lit rfl) dX14_readExpr_123 (by decide) (fun c => ?_) (fun c => ?_)
            · have h := hT c
              refine z_aload_n hC (pc := 136) 0 dX14_readExpr_136 rfl rfl ?_
              refine z_bipush hC (pc := 137) (v := Int32.ofInt 40) dX14_readExpr_137 (by decide) ?_
              refine z_iload_n hC (pc := 139) 3 dX14_readExpr_139 rfl rfl ?_
              refine z_iconst hC (pc := 140) (v := Int32.ofInt 0) dX14_readExpr_140 (by decide) ?_
              refine z_iload_n hC (pc := 141) 1 dX14_readExpr_141 rfl rfl ?_
              obtain ⟨p56, h⟩ := h
              refine y_callVi hC (pc := 142) (As := [iv 40, iv y33_3, iv 0, iv x1]) (kX14_node_t l G κ s106 40 y33_3 0 x1 gg Ws106 (r_lit rfl) hy33_3 (r_lit rfl) hx1 p56) dmX14_node zf14 rOb_0 dX14_readExpr_142 zw3170 rfl rfl (Nat.le_of_ble_eq_true rfl) (Nat.le_of_ble_eq_true rfl) (by omega) (by omega) (Nat.le_of_ble_eq_true rfl) (kk := fun v142 s142 hv142 Ws142 qs142 => ?_)
              have h := h v142 s142 hv142 Ws142 (rNMp.keep qs142.1 rfl rfl rfl rfl rfl) (TPRp.keep qs142.1 rfl rfl rfl) (WNp.keep qs142.1 rfl rfl rfl rfl rfl) (CCp.keep qs142.1 rfl rfl rfl rfl rfl rfl rfl) (qs142.1.R rfl) (qs142.1.F rfl) (qs142.1.F rfl) (qs142.1.F rfl) (qs142.1.F rfl) (qs142.1.F rfl) (qs142.1.F rfl) (qs142.1.F rfl) (qs142.1.F rfl) (qs142.1.F rfl) (qs142.1.F rfl) (qs142.1.F rfl) (fun i => qs142.1.A (f := 26) (by decide) rfl) (fun i => qs142.1.A (f := 34) (by decide) rfl) (fun i => qs142.1.A (f := 35) (by decide) rfl) (fun i => qs142.1.A (f := 37) (by decide) rfl) (fun i => qs142.1.A (f := 40) (by decide) rfl) (qs142.1.FG g0 rfl) (qs142.1.FG g0 rfl) (qs142.1.FG g0 rfl) (qs142.1.FG g0 rfl) (fun i => qs142.1.AG (f := 33) g0 (by decide) rfl) (fun i => qs142.1.AG (f := 34) g0 (by decide) rfl) (fun i => qs142.1.AG (f := 35) g0 (by decide) rfl) (fz_keep qs142.1 rfl) qs142.2
              refine z_istore hC (pc := 145) (lv' := [(6, iv v142), (0, .ref (κ 0)), (1, iv x1), (2, iv y33_2), (3, iv y33_3), (4, iv y33_4), (5, iv y33_5)]) dX14_readExpr_145 (by decide) rfl ?_
              refine z_aload_n hC (pc := 147) 1 dX14_readExpr_147 rfl rfl ?_
              refine y_get hC (pc := 148) zf14 rOb_0 7 (v := .ref (κ (rR σ 7))) dX14_readExpr_148 zw2475 (rv_g rfl ((qs142.1.R rfl).trans ((qs106.1.R rfl).trans ((qs102.1.R rfl).trans (kJ.R rfl)))) g0) (kk := ?_)
              refine y_getN hC (pc := 151) zf13 (rOb_k g0) 38 (v := iv (rF s142 (rR σ 7) 38)) dX14_readExpr_151 zw2384 (rv_i (Or.inl rfl) rfl) (kk := ?_)
              have h := h (Ws142.f _ _)
              refine z_istore hC (pc := 154) (lv' := [(7, iv (rF s142 (rR σ 7) 38)), (6, iv v142), (0, .ref (κ 0)), (1, iv x1), (2, iv y33_2), (3, iv y33_3), (4, iv y33_4), (5, iv y33_5)]) dX14_readExpr_154 (by decide) rfl ?_
              refine z_aload_n hC (pc := 156) 2 dX14_readExpr_156 rfl rfl ?_
              refine z_bipush hC (pc := 157) (v := Int32.ofInt 33) dX14_readExpr_157 (by decide) ?_
              refine z_iconst hC (pc := 159) (v := Int32.ofInt 0) dX14_readExpr_159 (by decide) ?_
              refine z_iload hC (pc := 160) 6 dX14_readExpr_160 rfl ?_
              refine z_aload_n hC (pc := 162) 2 dX14_readExpr_162 rfl rfl ?_
              obtain ⟨p57, h⟩ := h
              refine y_callVi hC (pc := 163) (As := []) (kX14_place l G κ s142  Ws142  p57) dmX14_place zf14 rOb_0 dX14_readExpr_163 zw3103 rfl rfl (Nat.le_of_ble_eq_true rfl) (Nat.le_of_ble_eq_true rfl) (by omega) (by omega) (Nat.le_of_ble_eq_true rfl) (kk := fun v163 s163 hv163 Ws163 qs163 => ?_)
              obtain ⟨es163, qs163⟩ := qs163
              have es163 := es163.symm
              subst es163
              have h := h v163 hv163 qs163
              obtain ⟨p58, h⟩ := h
              refine y_callVv hC (pc := 166) (As := [iv 33, iv 0, iv y33_4, iv v163]) (kX14_check_t l G κ s142 33 0 y33_4 v163 gg Ws142 (r_lit rfl) (r_lit rfl) hy33_4 hv163 p58) dmX14_check zf14 rOb_0 dX14_readExpr_166 zw3075 rfl rfl (Nat.le_of_ble_eq_true rfl) (Nat.le_of_ble_eq_true rfl) (by omega) (by omega) (Nat.le_of_ble_eq_true rfl) (kk := fun s166 Ws166 qs166 => ?_)
              have h := h s166 Ws166 (rNMp.keep qs166.1 rfl rfl rfl rfl rfl) (TPRp.keep qs166.1 rfl rfl rfl) (WNp.keep qs166.1 rfl rfl rfl rfl rfl) (PNp.keep qs166.1 rfl rfl rfl rfl rfl) (CCp.keep qs166.1 rfl rfl rfl rfl rfl rfl rfl) (qs166.1.R rfl) (qs166.1.F rfl) (qs166.1.F rfl) (qs166.1.F rfl) (qs166.1.F rfl) (qs166.1.F rfl) (qs166.1.F rfl) (qs166.1.F rfl) (qs166.1.F rfl) (qs166.1.F rfl) (qs166.1.F rfl) (qs166.1.F rfl) (fun i => qs166.1.A (f := 26) (by decide) rfl) (fun i => qs166.1.A (f := 34) (by decide) rfl) (fun i => qs166.1.A (f := 35) (by decide) rfl) (fun i => qs166.1.A (f := 37) (by decide) rfl) (fun i => qs166.1.A (f := 40) (by decide) rfl) (qs166.1.FG g0 rfl) (qs166.1.FG g0 rfl) (qs166.1.FG g0 rfl) (qs166.1.FG g0 rfl) (fz_keep qs166.1 rfl) qs166.2
              refine z_aload_n hC (pc := 169) 2 dX14_readExpr_169 rfl rfl ?_
              obtain ⟨g59, h⟩ := h
              obtain ⟨p60, h⟩ := h
              obtain ⟨p61, h⟩ := h
              refine y_callVi hC (pc := 170) (As := []) (qX14_readSub ih s166 gg g59 Ws166  p60 p61) dmX14_readSub zf14 rOb_0 dX14_readExpr_170 zw3222 rfl rfl (Nat.le_of_ble_eq_true rfl) (Nat.le_of_ble_eq_true rfl) (by omega) (by omega) (Nat.le_of_ble_eq_true rfl) (kk := fun v170 s170 hv170 Ws170 qs170 => ?_)
              have h := h v170 s170 hv170 Ws170 (TPRp.keep qs170.1 rfl rfl rfl) (CCp.keep qs170.1 rfl rfl rfl rfl rfl rfl rfl) (qs170.1.R rfl) (qs170.1.F rfl) (qs170.1.F rfl) (qs170.1.F rfl) (qs170.1.F rfl) (qs170.1.F rfl) (qs170.1.F rfl) (fun i => qs170.1.A (f := 26) (by decide) rfl) qs170.2
              refine z_istore hC (pc := 173) (lv' := [(8, iv v170), (7, iv (rF s142 (rR σ 7) 38)), (6, iv v142), (0, .ref (κ 0)), (1, iv x1), (2, iv y33_2), (3, iv y33_3), (4, iv y33_4), (5, iv y33_5)]) dX14_readExpr_173 (by decide) rfl ?_
              refine z_aload_n hC (pc := 175) 3 dX14_readExpr_175 rfl rfl ?_
              refine y_get hC (pc := 176) zf14 rOb_0 7 (v := .ref (κ (rR σ 7))) dX14_readExpr_176 zw2475 (rv_g rfl ((qs170.1.R rfl).trans ((qs166.1.R rfl).trans ((qs142.1.R rfl).trans ((qs106.1.R rfl).trans ((qs102.1.R rfl).trans (kJ.R rfl)))))) g0) (kk := ?_)
              refine y_getN hC (pc := 179) zf13 (rOb_k g0) 34 (v := .ref (κ (1000 * ((rR σ 7) + 1) + 34))) dX14_readExpr_179 zw2376 (rv_c rfl) (kk := ?_)
              refine z_iload hC (pc := 182) 1 dX14_readExpr_182 rfl ?_
              refine z_iload hC (pc := 184) 0 dX14_readExpr_184 rfl ?_
              obtain ⟨b62, h⟩ := h
              refine y_iast hC (pc := 186) (rAr_k g0 rfl rfl) dX14_readExpr_186 b62 (v := v170) (kk := ?_)
              have W63 := Ws170.sA (p := (1000 * ((rR σ 7) + 1) + 34)) (i := (rF s142 (rR σ 7) 38)) (x := v170) hv170
              refine z_aload_n hC (pc := 187) 3 dX14_readExpr_187 rfl rfl ?_
              refine y_get hC (pc := 188) zf14 rOb_0 7 (v := .ref (κ (rR σ 7))) dX14_readExpr_188 zw2475 (rv_g rfl ((qs170.1.R rfl).trans ((qs166.1.R rfl).trans ((qs142.1.R rfl).trans ((qs106.1.R rfl).trans ((qs102.1.R rfl).trans (kJ.R rfl)))))) g0) (kk := ?_)
              refine y_getN hC (pc := 191) zf13 (rOb_k g0) 2 (v := .ref (κ (1000 * ((rR σ 7) + 1) + 2))) dX14_readExpr_191 zw2314 (rv_c rfl) (kk := ?_)
              refine z_iload hC (pc := 194) 2 dX14_readExpr_194 rfl ?_
              refine z_iload hC (pc := 196) 0 dX14_readExpr_196 rfl ?_
              obtain ⟨b64, h⟩ := h
              refine y_iast hC (pc := 198) (rAr_k g0 rfl rfl) dX14_readExpr_198 b64 (v := v170) (kk := ?_)
              have W65 := W63.sA (p := (1000 * ((rR σ 7) + 1) + 2)) (i := v142) (x := v170) hv170
              refine z_aload_n hC (pc := 199) 3 dX14_readExpr_199 rfl rfl ?_
              refine y_get hC (pc := 200) zf14 rOb_0 7 (v := .ref (κ (rR σ 7))) dX14_readExpr_200 zw2475 (rv_g rfl ((qs170.1.R rfl).trans ((qs166.1.R rfl).trans ((qs142.1.R rfl).trans ((qs106.1.R rfl).trans ((qs102.1.R rfl).trans (kJ.R rfl)))))) g0) (kk := ?_)
              refine y_getN hC (pc := 203) zf13 (rOb_k g0) 1 (v := .ref (κ (1000 * ((rR σ 7) + 1) + 1))) dX14_readExpr_203 zw2312 (rv_c rfl) (kk := ?_)
              refine z_iload_n hC (pc := 206) 5 dX14_readExpr_206 rfl rfl ?_
              refine z_aload_n hC (pc := 207) 3 dX14_readExpr_207 rfl rfl ?_
              refine z_bipush hC (pc := 208) (v := Int32.ofInt 41) dX14_readExpr_208 (by decide) ?_
              refine z_iload hC (pc := 210) 2 dX14_readExpr_210 rfl ?_
              refine z_iconst hC (pc := 212) (v := Int32.ofInt 0) dX14_readExpr_212 (by decide) ?_
              refine z_iload_n hC (pc := 213) 4 dX14_readExpr_213 rfl rfl ?_
              obtain ⟨p66, h⟩ := h
              refine y_callVi hC (pc := 214) (As := [iv 41, iv v142, iv 0, iv x1]) (kX14_node_t l G κ (sT (sA s170 (1000 * ((rR σ 7) + 1) + 34) (rF s142 (rR σ 7) 38) v170) (rR σ 7) 2 v142 v170) 41 v142 0 x1 gg W65 (r_lit rfl) hv142 (r_lit rfl) hx1 p66) dmX14_node zf14 rOb_0 dX14_readExpr_214 zw3170 rfl rfl (Nat.le_of_ble_eq_true rfl) (Nat.le_of_ble_eq_true rfl) (by omega) (by omega) (Nat.le_of_ble_eq_true rfl) (kk := fun v214 s214 hv214 Ws214 qs214 => ?_)
              have h := h v214 s214 hv214 Ws214 (rNMp.keep qs214.1 rfl rfl rfl rfl rfl) (TPRp.keep qs214.1 rfl rfl rfl) (WNp.keep qs214.1 rfl rfl rfl rfl rfl) (CCp.keep qs214.1 rfl rfl rfl rfl rfl rfl rfl) (qs214.1.R rfl) (qs214.1.F rfl) (qs214.1.F rfl) (qs214.1.F rfl) (qs214.1.F rfl) (qs214.1.F rfl) (qs214.1.F rfl) (qs214.1.F rfl) (qs214.1.F rfl) (qs214.1.F rfl) (qs214.1.F rfl) (qs214.1.F rfl) (fun i => qs214.1.A (f := 26) (by decide) rfl) (fun i => qs214.1.A (f := 34) (by decide) rfl) (fun i => qs214.1.A (f := 35) (by decide) rfl) (fun i => qs214.1.A (f := 37) (by decide) rfl) (fun i => qs214.1.A (f := 40) (by decide) rfl) (qs214.1.FG g0 rfl) (qs214.1.FG g0 rfl) (qs214.1.FG g0 rfl) (qs214.1.FG g0 rfl) (fun i => qs214.1.AG (f := 33) g0 (by decide) rfl) (fun i => qs214.1.AG (f := 34) g0 (by decide) rfl) (fun i => qs214.1.AG (f := 35) g0 (by decide) rfl) (fz_keep qs214.1 rfl) qs214.2
              obtain ⟨b67, h⟩ := h
              refine y_iast hC (pc := 217) (rAr_k g0 rfl rfl) dX14_readExpr_217 b67 (v := v214) (kk := ?_)
              have W68 := Ws214.sA (p := (1000 * ((rR σ 7) + 1) + 1)) (i := y33_2) (x := v214) hv214
              refine z_goto hC (pc := 218) 394 dX14_readExpr_218 (by decide) ?_
              refine z_lvs [3, 4, 5] rfl ?_
              exact j394 (sT s214 (rR σ 7) 1 y33_2 v214) y33_2 W68 hy33_2 (rKeep.tr (rKeep.tr (rKeep.tr (rKeep.tr (rKeep.tr (rKeep.tr (rKeep.tr (rKeep.tr (rKeep.tr (rKeep.tr rKeep.rf kJ rfl rfl rfl rfl rfl) qs102.1 rfl rfl rfl rfl rfl) qs106.1 rfl rfl rfl rfl rfl) qs142.1 rfl rfl rfl rfl rfl) qs166.1 rfl rfl rfl rfl rfl) qs170.1 rfl rfl rfl rfl rfl) (rKeep.sAk (f := 34) g0 (by decide)) rfl rfl rfl rfl rfl) (rKeep.sAk (f := 2) g0 (by decide)) rfl rfl rfl rfl rfl) qs214.1 rfl rfl rfl rfl rfl) (rKeep.sAk (f := 1) g0 (by decide)) rfl rfl rfl rfl rfl) h
            · have h := hF c
              refine z_aload_n hC (pc := 126) 0 dX14_readExpr_126 rfl rfl ?_
              refine z_iconst hC (pc := 127) (v := Int32.ofInt 1) dX14_readExpr_127 (by decide) ?_
              refine z_aload_n hC (pc := 128) 0 dX14_readExpr_128 rfl rfl ?_
              obtain ⟨p69, h⟩ := h
              refine y_callVi hC (pc := 129) (As := []) (kX14_place l G κ s106  Ws106  p69) dmX14_place zf14 rOb_0 dX14_readExpr_129 zw3103 rfl rfl (Nat.le_of_ble_eq_true rfl) (Nat.le_of_ble_eq_true rfl) (by omega) (by omega) (Nat.le_of_ble_eq_true rfl) (kk := fun v129 s129 hv129 Ws129 qs129 => ?_)
              obtain ⟨es129, qs129⟩ := qs129
              have es129 := es129.symm
              subst es129
              have h := h v129 hv129 qs129
              obtain ⟨p70, h⟩ := h
              refine y_callVv hC (pc := 132) (As := [iv 1, iv v129]) (kX14_bad l G κ s106 1 v129 Ws106 (r_lit rfl) hv129 p70) dmX14_bad zf14 rOb_0 dX14_readExpr_132 zw3000 rfl rfl (Nat.le_of_ble_eq_true rfl) (Nat.le_of_ble_eq_true rfl) (by omega) (by omega) (Nat.le_of_ble_eq_true rfl) (kk := fun s132 Ws132 qs132 => ?_)
              have h := h s132 Ws132 (rNMp.keep qs132.1 rfl rfl rfl rfl rfl) (TPRp.keep qs132.1 rfl rfl rfl) (WNp.keep qs132.1 rfl rfl rfl rfl rfl) (PNp.keep qs132.1 rfl rfl rfl rfl rfl) (CCp.keep qs132.1 rfl rfl rfl rfl rfl rfl rfl) (qs132.1.R rfl) (qs132.1.F rfl) (qs132.1.F rfl) (qs132.1.F rfl) (qs132.1.F rfl) (qs132.1.F rfl) (qs132.1.F rfl) (qs132.1.F rfl) (qs132.1.F rfl) (qs132.1.F rfl) (qs132.1.F rfl) (fun i => qs132.1.A (f := 26) (by decide) rfl) (fun i => qs132.1.A (f := 34) (by decide) rfl) (fun i => qs132.1.A (f := 35) (by decide) rfl) (fun i => qs132.1.A (f := 37) (by decide) rfl) (fun i => qs132.1.A (f := 40) (by decide) rfl) (qs132.1.FG g0 rfl) (qs132.1.FG g0 rfl) (qs132.1.FG g0 rfl) (qs132.1.FG g0 rfl) (qs132.1.FG g0 rfl) (fun i => qs132.1.AG (f := 33) g0 (by decide) rfl) (fun i => qs132.1.AG (f := 34) g0 (by decide) rfl) (fun i => qs132.1.AG (f := 35) g0 (by decide) rfl) (RG.keep (c0 := 0) qs132.1 rfl rfl rfl rfl rfl rfl rfl rfl rfl rfl rfl rfl rfl rfl rfl rfl rfl rfl) qs132.2
              exact y_retv hR dX14_readExpr_135 Ws132 (Nat.le_of_ble_eq_true rfl) (Nat.le_of_ble_eq_true rfl) ⟨(rKeep.tr (rKeep.tr (rKeep.tr (rKeep.tr rKeep.rf kJ rfl rfl rfl rfl rfl) qs102.1 rfl rfl rfl rfl rfl) qs106.1 rfl rfl rfl rfl rfl) qs132.1 rfl rfl rfl rfl rfl), h⟩
          · have h := hF c
            exact y_retv hR dX14_readExpr_116 Ws106 (Nat.le_of_ble_eq_true rfl) (Nat.le_of_ble_eq_true rfl) ⟨(rKeep.tr (rKeep.tr (rKeep.tr rKeep.rf kJ rfl rfl rfl rfl rfl) qs102.1 rfl rfl rfl rfl rfl) qs106.1 rfl rfl rfl rfl rfl), h⟩
        · have h := hF c
          refine z_aload_n hC (pc := 42) 0 dX14_readExpr_42 rfl rfl ?_
          refine y_get hC (pc := 43) zf14 rOb_0 10 (v := iv (rF s33 0 10)) dX14_readExpr_43 zw2478 (rv_i (Or.inl rfl) rfl) (kk := ?_)
          have h := h (Ws33.f _ _)
          obtain ⟨hT, hF⟩ := h
          refine y_if_ne hC (pc := 46) 99 (Ws33.f _ _) dX14_readExpr_46 (by decide) (fun c => ?_) (fun c => ?_)
          · have h := hT c
            refine z_aload_n hC (pc := 99) 0 dX14_readExpr_99 rfl rfl ?_
            refine z_bipush hC (pc := 100) (v := Int32.ofInt 58) dX14_readExpr_100 (by decide) ?_
            obtain ⟨p71, h⟩ := h
            refine y_callVv hC (pc := 102) (As := [iv 58]) (kX14_need l G κ s33 58 Ws33 (r_lit rfl) p71) dmX14_need zf14 rOb_0 dX14_readExpr_102 zw3136 rfl rfl (Nat.le_of_ble_eq_true rfl) (Nat.le_of_ble_eq_true rfl) (by omega) (by omega) (Nat.le_of_ble_eq_true rfl) (kk := fun s102 Ws102 qs102 => ?_)
            have h := h s102 Ws102 (rNMp.keep qs102.1 rfl rfl rfl rfl rfl) (TPRp.keep qs102.1 rfl rfl rfl) (WNp.keep qs102.1 rfl rfl rfl rfl rfl) (PNp.keep qs102.1 rfl rfl rfl rfl rfl) (CCp.keep qs102.1 rfl rfl rfl rfl rfl rfl rfl) (qs102.1.R rfl) (qs102.1.F rfl) (qs102.1.F rfl) (qs102.1.F rfl) (qs102.1.F rfl) (qs102.1.F rfl) (qs102.1.F rfl) (qs102.1.F rfl) (qs102.1.F rfl) (qs102.1.F rfl) (fun i => qs102.1.A (f := 26) (by decide) rfl) (fun i => qs102.1.A (f := 34) (by decide) rfl) (fun i => qs102.1.A (f := 35) (by decide) rfl) (fun i => qs102.1.A (f := 37) (by decide) rfl) (fun i => qs102.1.A (f := 40) (by decide) rfl) (qs102.1.FG g0 rfl) (qs102.1.FG g0 rfl) (qs102.1.FG g0 rfl) (qs102.1.FG g0 rfl) (qs102.1.FG g0 rfl) (fun i => qs102.1.AG (f := 33) g0 (by decide) rfl) (fun i => qs102.1.AG (f := 34) g0 (by decide) rfl) (fun i => qs102.1.AG (f := 35) g0 (by decide) rfl) (RG.keep (c0 := 0) qs102.1 rfl rfl rfl rfl rfl rfl rfl rfl rfl rfl rfl rfl rfl rfl rfl rfl rfl rfl) qs102.2
            refine z_aload_n hC (pc := 105) 0 dX14_readExpr_105 rfl rfl ?_
            obtain ⟨p72, h⟩ := h
            refine y_callVv hC (pc := 106) (As := []) (kX14_blanks l G κ s102  Ws102  p72) dmX14_blanks zf14 rOb_0 dX14_readExpr_106 zw3119 rfl rfl (Nat.le_of_ble_eq_true rfl) (Nat.le_of_ble_eq_true rfl) (by omega) (by omega) (Nat.le_of_ble_eq_true rfl) (kk := fun s106 Ws106 qs106 => ?_)
            have h := h s106 Ws106 (rNMp.keep qs106.1 rfl rfl rfl rfl rfl) (TPRp.keep qs106.1 rfl rfl rfl) (WNp.keep qs106.1 rfl rfl rfl rfl rfl) (PNp.keep qs106.1 rfl rfl rfl rfl rfl) (CCp.keep qs106.1 rfl rfl rfl rfl rfl rfl rfl) (qs106.1.R rfl) (qs106.1.F rfl) (qs106.1.F rfl) (qs106.1.F rfl) (qs106.1.F rfl) (qs106.1.F rfl) (qs106.1.F rfl) (qs106.1.F rfl) (qs106.1.F rfl) (qs106.1.F rfl) (qs106.1.F rfl) (fun i => qs106.1.A (f := 26) (by decide) rfl) (fun i => qs106.1.A (f := 34) (by decide) rfl) (fun i => qs106.1.A (f := 35) (by decide) rfl) (fun i => qs106.1.A (f := 37) (by decide) rfl) (fun i => qs106.1.A (f := 40) (by decide) rfl) (qs106.1.FG g0 rfl) (qs106.1.FG g0 rfl) (qs106.1.FG g0 rfl) (qs106.1.FG g0 rfl) (qs106.1.FG g0 rfl) (fun i => qs106.1.AG (f := 33) g0 (by decide) rfl) (fun i => qs106.1.AG (f := 34) g0 (by decide) rfl) (fun i => qs106.1.AG (f := 35) g0 (by decide) rfl) (fz_keep qs106.1 rfl) (RG.keep (c0 := 0) qs106.1 rfl rfl rfl rfl rfl rfl rfl rfl rfl rfl rfl rfl rfl rfl rfl rfl rfl rfl) qs106.2
            refine z_aload_n hC (pc := 109) 0 dX14_readExpr_109 rfl rfl ?_
            refine y_get hC (pc := 110) zf14 rOb_0 10 (v := iv (rF s106 0 10)) dX14_readExpr_110 zw2478 (rv_i (Or.inl rfl) rfl) (kk := ?_)
            have h := h (Ws106.f _ _)
            obtain ⟨hT, hF⟩ := h
            refine y_if_eq hC (pc := 113) 117 (Ws106.f _ _) dX14_readExpr_113 (by decide) (fun c => ?_) (fun c => ?_)
            · have h := hT c
              refine z_aload_n hC (pc := 117) 0 dX14_readExpr_117 rfl rfl ?_
              obtain ⟨p73, h⟩ := h
              refine y_callVi hC (pc := 118) (As := []) (kX14_here l G κ s106  Ws106  p73) dmX14_here zf14 rOb_0 dX14_readExpr_118 zw3099 rfl rfl (Nat.le_of_ble_eq_true rfl) (Nat.le_of_ble_eq_true rfl) (by omega) (by omega) (Nat.le_of_ble_eq_true rfl) (kk := fun v118 s118 hv118 Ws118 qs118 => ?_)
              obtain ⟨es118, qs118⟩ := qs118
              have es118 := es118.symm
              subst es118
              have h := h v118 hv118 qs118
              refine z_bipush hC (pc := 121) (v := Int32.ofInt 123) dX14_readExpr_121 (by decide) ?_
              obtain ⟨hT, hF⟩ := h
              refine y_icmp_eq hC (pc := 123) 136 hv118 (r_lit rfl) dX14_readExpr_123 (by decide) (fun c => ?_) (fun c => ?_)
              · have h := hT c
                refine z_aload_n hC (pc := 136) 0 dX14_readExpr_136 rfl rfl ?_
                refine z_bipush hC (pc := 137) (v := Int32.ofInt 40) dX14_readExpr_137 (by decide) ?_
                refine z_iload_n hC (pc := 139) 3 dX14_readExpr_139 rfl rfl ?_
                refine z_iconst hC (pc := 140) (v := Int32.ofInt 0) dX14_readExpr_140 (by decide) ?_
                refine z_iload_n hC (pc := 141) 1 dX14_readExpr_141 rfl rfl ?_
                obtain ⟨p74, h⟩ := h
                refine y_callVi hC (pc := 142) (As := [iv 40, iv y33_3, iv 0, iv x1]) (kX14_node_t l G κ s106 40 y33_3 0 x1 gg Ws106 (r_lit rfl) hy33_3 (r_lit rfl) hx1 p74) dmX14_node zf14 rOb_0 dX14_readExpr_142 zw3170 rfl rfl (Nat.le_of_ble_eq_true rfl) (Nat.le_of_ble_eq_true rfl) (by omega) (by omega) (Nat.le_of_ble_eq_true rfl) (kk := fun v142 s142 hv142 Ws142 qs142 => ?_)
                have h := h v142 s142 hv142 Ws142 (rNMp.keep qs142.1 rfl rfl rfl rfl rfl) (TPRp.keep qs142.1 rfl rfl rfl) (WNp.keep qs142.1 rfl rfl rfl rfl rfl) (CCp.keep qs142.1 rfl rfl rfl rfl rfl rfl rfl) (qs142.1.R rfl) (qs142.1.F rfl) (qs142.1.F rfl) (qs142.1.F rfl) (qs142.1.F rfl) (qs142.1.F rfl) (qs142.1.F rfl) (qs142.1.F rfl) (qs142.1.F rfl) (qs142.1.F rfl) (qs142.1.F rfl) (qs142.1.F rfl) (fun i => qs142.1.A (f := 26) (by decide) rfl) (fun i => qs142.1.A (f := 34) (by decide) rfl) (fun i => qs142.1.A (f := 35) (by decide) rfl) (fun i => qs142.1.A (f := 37) (by decide) rfl) (fun i => qs142.1.A (f := 40) (by decide) rfl) (qs142.1.FG g0 rfl) (qs142.1.FG g0 rfl) (qs142.1.FG g0 rfl) (qs142.1.FG g0 rfl) (fun i => qs142.1.AG (f := 33) g0 (by decide) rfl) (fun i => qs142.1.AG (f := 34) g0 (by decide) rfl) (fun i => qs142.1.AG (f := 35) g0 (by decide) rfl) (fz_keep qs142.1 rfl) qs142.2
                refine z_istore hC (pc := 145) (lv' := [(6, iv v142), (0, .ref (κ 0)), (1, iv x1), (2, iv y33_2), (3, iv y33_3), (4, iv y33_4), (5, iv y33_5)]) dX14_readExpr_145 (by decide) rfl ?_
                refine z_aload_n hC (pc := 147) 1 dX14_readExpr_147 rfl rfl ?_
                refine y_get hC (pc := 148) zf14 rOb_0 7 (v := .ref (κ (rR σ 7))) dX14_readExpr_148 zw2475 (rv_g rfl ((qs142.1.R rfl).trans ((qs106.1.R rfl).trans ((qs102.1.R rfl).trans (kJ.R rfl)))) g0) (kk := ?_)
                refine y_getN hC (pc := 151) zf13 (rOb_k g0) 38 (v := iv (rF s142 (rR σ 7) 38)) dX14_readExpr_151 zw2384 (rv_i (Or.inl rfl) rfl) (kk := ?_)
                have h := h (Ws142.f _ _)
                refine z_istore hC (pc := 154) (lv' := [(7, iv (rF s142 (rR σ 7) 38)), (6, iv v142), (0, .ref (κ 0)), (1, iv x1), (2, iv y33_2), (3, iv y33_3), (4, iv y33_4), (5, iv y33_5)]) dX14_readExpr_154 (by decide) rfl ?_
                refine z_aload_n hC (pc := 156) 2 dX14_readExpr_156 rfl rfl ?_
                refine z_bipush hC (pc := 157) (v := Int32.ofInt 33) dX14_readExpr_157 (by decide) ?_
                refine z_iconst hC (pc := 159) (v := Int32.ofInt 0) dX14_readExpr_159 (by decide) ?_
                refine z_iload hC (pc := 160) 6 dX14_readExpr_160 rfl ?_
                refine z_aload_n hC (pc := 162) 2 dX14_readExpr_162 rfl rfl ?_
                obtain ⟨p75, h⟩ := h
                refine y_callVi hC (pc := 163) (As := []) (kX14_place l G κ s142  Ws142  p75) dmX14_place zf14 rOb_0 dX14_readExpr_163 zw3103 rfl rfl (Nat.le_of_ble_eq_true rfl) (Nat.le_of_ble_eq_true rfl) (by omega) (by omega) (Nat.le_of_ble_eq_true rfl) (kk := fun v163 s163 hv163 Ws163 qs163 => ?_)
                obtain ⟨es163, qs163⟩ := qs163
                have es163 := es163.symm
                subst es163
                have h := h v163 hv163 qs163
                obtain ⟨p76, h⟩ := h
                refine y_callVv hC (pc := 166) (As := [iv 33, iv 0, iv y33_4, iv v163]) (kX14_check_t l G κ s142 33 0 y33_4 v163 gg Ws142 (r_lit rfl) (r_lit rfl) hy33_4 hv163 p76) dmX14_check zf14 rOb_0 dX14_readExpr_166 zw3075 rfl rfl (Nat.le_of_ble_eq_true rfl) (Nat.le_of_ble_eq_true rfl) (by omega) (by omega) (Nat.le_of_ble_eq_true rfl) (kk := fun s166 Ws166 qs166 => ?_)
                have h := h s166 Ws166 (rNMp.keep qs166.1 rfl rfl rfl rfl rfl) (TPRp.keep qs166.1 rfl rfl rfl) (WNp.keep qs166.1 rfl rfl rfl rfl rfl) (PNp.keep qs166.1 rfl rfl rfl rfl rfl) (CCp.keep qs166.1 rfl rfl rfl rfl rfl rfl rfl) (qs166.1.R rfl) (qs166.1.F rfl) (qs166.1.F rfl) (qs166.1.F rfl) (qs166.1.F rfl) (qs166.1.F rfl) (qs166.1.F rfl) (qs166.1.F rfl) (qs166.1.F rfl) (qs166.1.F rfl) (qs166.1.F rfl) (qs166.1.F rfl) (fun i => qs166.1.A (f := 26) (by decide) rfl) (fun i => qs166.1.A (f := 34) (by decide) rfl) (fun i => qs166.1.A (f := 35) (by decide) rfl) (fun i => qs166.1.A (f := 37) (by decide) rfl) (fun i => qs166.1.A (f := 40) (by decide) rfl) (qs166.1.FG g0 rfl) (qs166.1.FG g0 rfl) (qs166.1.FG g0 rfl) (qs166.1.FG g0 rfl) (fz_keep qs166.1 rfl) qs166.2
                refine z_aload_n hC (pc := 169) 2 dX14_readExpr_169 rfl rfl ?_
                obtain ⟨g77, h⟩ := h
                obtain ⟨p78, h⟩ := h
                obtain ⟨p79, h⟩ := h
                refine y_callVi hC (pc := 170) (As := []) (qX14_readSub ih s166 gg g77 Ws166  p78 p79) dmX14_readSub zf14 rOb_0 dX14_readExpr_170 zw3222 rfl rfl (Nat.le_of_ble_eq_true rfl) (Nat.le_of_ble_eq_true rfl) (by omega) (by omega) (Nat.le_of_ble_eq_true rfl) (kk := fun v170 s170 hv170 Ws170 qs170 => ?_)
                have h := h v170 s170 hv170 Ws170 (TPRp.keep qs170.1 rfl rfl rfl) (CCp.keep qs170.1 rfl rfl rfl rfl rfl rfl rfl) (qs170.1.R rfl) (qs170.1.F rfl) (qs170.1.F rfl) (qs170.1.F rfl) (qs170.1.F rfl) (qs170.1.F rfl) (qs170.1.F rfl) (fun i => qs170.1.A (f := 26) (by decide) rfl) qs170.2
                refine z_istore hC (pc := 173) (lv' := [(8, iv v170), (7, iv (rF s142 (rR σ 7) 38)), (6, iv v142), (0, .ref (κ 0)), (1, iv x1), (2, iv y33_2), (3, iv y33_3), (4, iv y33_4), (5, iv y33_5)]) dX14_readExpr_173 (by decide) rfl ?_
                refine z_aload_n hC (pc := 175) 3 dX14_readExpr_175 rfl rfl ?_
                refine y_get hC (pc := 176) zf14 rOb_0 7 (v := .ref (κ (rR σ 7))) dX14_readExpr_176 zw2475 (rv_g rfl ((qs170.1.R rfl).trans ((qs166.1.R rfl).trans ((qs142.1.R rfl).trans ((qs106.1.R rfl).trans ((qs102.1.R rfl).trans (kJ.R rfl)))))) g0) (kk := ?_)
                refine y_getN hC (pc := 179) zf13 (rOb_k g0) 34 (v := .ref (κ (1000 * ((rR σ 7) + 1) + 34))) dX14_readExpr_179 zw2376 (rv_c rfl) (kk := ?_)
                refine z_iload hC (pc := 182) 1 dX14_readExpr_182 rfl ?_
                refine z_iload hC (pc := 184) 0 dX14_readExpr_184 rfl ?_
                obtain ⟨b80, h⟩ := h
                refine y_iast hC (pc := 186) (rAr_k g0 rfl rfl) dX14_readExpr_186 b80 (v := v170) (kk := ?_)
                have W81 := Ws170.sA (p := (1000 * ((rR σ 7) + 1) + 34)) (i := (rF s142 (rR σ 7) 38)) (x := v170) hv170
                refine z_aload_n hC (pc := 187) 3 dX14_readExpr_187 rfl rfl ?_
                refine y_get hC (pc := 188) zf14 rOb_0 7 (v := .ref (κ (rR σ 7))) dX14_readExpr_188 zw2475 (rv_g rfl ((qs170.1.R rfl).trans ((qs166.1.R rfl).trans ((qs142.1.R rfl).trans ((qs106.1.R rfl).trans ((qs102.1.R rfl).trans (kJ.R rfl)))))) g0) (kk := ?_)
                refine y_getN hC (pc := 191) zf13 (rOb_k g0) 2 (v := .ref (κ (1000 * ((rR σ 7) + 1) + 2))) dX14_readExpr_191 zw2314 (rv_c rfl) (kk := ?_)
                refine z_iload hC (pc := 194) 2 dX14_readExpr_194 rfl ?_
                refine z_iload hC (pc := 196) 0 dX14_readExpr_196 rfl ?_
                obtain ⟨b82, h⟩ := h
                refine y_iast hC (pc := 198) (rAr_k g0 rfl rfl) dX14_readExpr_198 b82 (v := v170) (kk := ?_)
                have W83 := W81.sA (p := (1000 * ((rR σ 7) + 1) + 2)) (i := v142) (x := v170) hv170
                refine z_aload_n hC (pc := 199) 3 dX14_readExpr_199 rfl rfl ?_
                refine y_get hC (pc := 200) zf14 rOb_0 7 (v := .ref (κ (rR σ 7))) dX14_readExpr_200 zw2475 (rv_g rfl ((qs170.1.R rfl).trans ((qs166.1.R rfl).trans ((qs142.1.R rfl).trans ((qs106.1.R rfl).trans ((qs102.1.R rfl).trans (kJ.R rfl)))))) g0) (kk := ?_)
                refine y_getN hC (pc := 203) zf13 (rOb_k g0) 1 (v := .ref (κ (1000 * ((rR σ 7) + 1) + 1))) dX14_readExpr_203 zw2312 (rv_c rfl) (kk := ?_)
                refine z_iload_n hC (pc := 206) 5 dX14_readExpr_206 rfl rfl ?_
                refine z_aload_n hC (pc := 207) 3 dX14_readExpr_207 rfl rfl ?_
                refine z_bipush hC (pc := 208) (v := Int32.ofInt 41) dX14_readExpr_208 (by decide) ?_
                refine z_iload hC (pc := 210) 2 dX14_readExpr_210 rfl ?_
                refine z_iconst hC (pc := 212) (v := Int32.ofInt 0) dX14_readExpr_212 (by decide) ?_
                refine z_iload_n hC (pc := 213) 4 dX14_readExpr_213 rfl rfl ?_
                obtain ⟨p84, h⟩ := h
                refine y_callVi hC (pc := 214) (As := [iv 41, iv v142, iv 0, iv x1]) (kX14_node_t l G κ (sT (sA s170 (1000 * ((rR σ 7) + 1) + 34) (rF s142 (rR σ 7) 38) v170) (rR σ 7) 2 v142 v170) 41 v142 0 x1 gg W83 (r_lit rfl) hv142 (r_lit rfl) hx1 p84) dmX14_node zf14 rOb_0 dX14_readExpr_214 zw3170 rfl rfl (Nat.le_of_ble_eq_true rfl) (Nat.le_of_ble_eq_true rfl) (by omega) (by omega) (Nat.le_of_ble_eq_true rfl) (kk := fun v214 s214 hv214 Ws214 qs214 => ?_)
                have h := h v214 s214 hv214 Ws214 (rNMp.keep qs214.1 rfl rfl rfl rfl rfl) (TPRp.keep qs214.1 rfl rfl rfl) (WNp.keep qs214.1 rfl rfl rfl rfl rfl) (CCp.keep qs214.1 rfl rfl rfl rfl rfl rfl rfl) (qs214.1.R rfl) (qs214.1.F rfl) (qs214.1.F rfl) (qs214.1.F rfl) (qs214.1.F rfl) (qs214.1.F rfl) (qs214.1.F rfl) (qs214.1.F rfl) (qs214.1.F rfl) (qs214.1.F rfl) (qs214.1.F rfl) (qs214.1.F rfl) (fun i => qs214.1.A (f := 26) (by decide) rfl) (fun i => qs214.1.A (f := 34) (by decide) rfl) (fun i => qs214.1.A (f := 35) (by decide) rfl) (fun i => qs214.1.A (f := 37) (by decide) rfl) (fun i => qs214.1.A (f := 40) (by decide) rfl) (qs214.1.FG g0 rfl) (qs214.1.FG g0 rfl) (qs214.1.FG g0 rfl) (qs214.1.FG g0 rfl) (fun i => qs214.1.AG (f := 33) g0 (by decide) rfl) (fun i => qs214.1.AG (f := 34) g0 (by decide) rfl) (fun i => qs214.1.AG (f := 35) g0 (by decide) rfl) (fz_keep qs214.1 rfl) qs214.2
                obtain ⟨b85, h⟩ := h
                refine y_iast hC (pc := 217) (rAr_k g0 rfl rfl) dX14_readExpr_217 b85 (v := v214) (kk := ?_)
                have W86 := Ws214.sA (p := (1000 * ((rR σ 7) + 1) + 1)) (i := y33_2) (x := v214) hv214
                refine z_goto hC (pc := 218) 394 dX14_readExpr_218 (by decide) ?_
                refine z_lvs [3, 4, 5] rfl ?_
                exact j394 (sT s214 (rR σ 7) 1 y33_2 v214) y33_2 W86 hy33_2 (rKeep.tr (rKeep.tr (rKeep.tr (rKeep.tr (rKeep.tr (rKeep.tr (rKeep.tr (rKeep.tr (rKeep.tr (rKeep.tr rKeep.rf kJ rfl rfl rfl rfl rfl) qs102.1 rfl rfl rfl rfl rfl) qs106.1 rfl rfl rfl rfl rfl) qs142.1 rfl rfl rfl rfl rfl) qs166.1 rfl rfl rfl rfl rfl) qs170.1 rfl rfl rfl rfl rfl) (rKeep.sAk (f := 34) g0 (by decide)) rfl rfl rfl rfl rfl) (rKeep.sAk (f := 2) g0 (by decide)) rfl rfl rfl rfl rfl) qs214.1 rfl rfl rfl rfl rfl) (rKeep.sAk (f := 1) g0 (by decide)) rfl rfl rfl rfl rfl) h
              · have h := hF c
                refine z_aload_n hC (pc := 126) 0 dX14_readExpr_126 rfl rfl ?_
                refine z_iconst hC (pc := 127) (v := Int32.ofInt 1) dX14_readExpr_127 (by decide) ?_
                refine z_aload_n hC (pc := 128) 0 dX14_readExpr_128 rfl rfl ?_
                obtain ⟨p87, h⟩ := h
                refine y_callVi hC (pc := 129) (As := []) (kX14_place l G κ s106  Ws106  p87) dmX14_place zf14 rOb_0 dX14_readExpr_129 zw3103 rfl rfl (Nat.le_of_ble_eq_true rfl) (Nat.le_of_ble_eq_true rfl) (by omega) (by omega) (Nat.le_of_ble_eq_true rfl) (kk := fun v129 s129 hv129 Ws129 qs129 => ?_)
                obtain ⟨es129, qs129⟩ := qs129
                have es129 := es129.symm
                subst es129
                have h := h v129 hv129 qs129
                obtain ⟨p88, h⟩ := h
                refine y_callVv hC (pc := 132) (As := [iv 1, iv v129]) (kX14_bad l G κ s106 1 v129 Ws106 (r_lit rfl) hv129 p88) dmX14_bad zf14 rOb_0 dX14_readExpr_132 zw3000 rfl rfl (Nat.le_of_ble_eq_true rfl) (Nat.le_of_ble_eq_true rfl) (by omega) (by omega) (Nat.le_of_ble_eq_true rfl) (kk := fun s132 Ws132 qs132 => ?_)
                have h := h s132 Ws132 (rNMp.keep qs132.1 rfl rfl rfl rfl rfl) (TPRp.keep qs132.1 rfl rfl rfl) (WNp.keep qs132.1 rfl rfl rfl rfl rfl) (PNp.keep qs132.1 rfl rfl rfl rfl rfl) (CCp.keep qs132.1 rfl rfl rfl rfl rfl rfl rfl) (qs132.1.R rfl) (qs132.1.F rfl) (qs132.1.F rfl) (qs132.1.F rfl) (qs132.1.F rfl) (qs132.1.F rfl) (qs132.1.F rfl) (qs132.1.F rfl) (qs132.1.F rfl) (qs132.1.F rfl) (qs132.1.F rfl) (fun i => qs132.1.A (f := 26) (by decide) rfl) (fun i => qs132.1.A (f := 34) (by decide) rfl) (fun i => qs132.1.A (f := 35) (by decide) rfl) (fun i => qs132.1.A (f := 37) (by decide) rfl) (fun i => qs132.1.A (f := 40) (by decide) rfl) (qs132.1.FG g0 rfl) (qs132.1.FG g0 rfl) (qs132.1.FG g0 rfl) (qs132.1.FG g0 rfl) (qs132.1.FG g0 rfl) (fun i => qs132.1.AG (f := 33) g0 (by decide) rfl) (fun i => qs132.1.AG (f := 34) g0 (by decide) rfl) (fun i => qs132.1.AG (f := 35) g0 (by decide) rfl) (RG.keep (c0 := 0) qs132.1 rfl rfl rfl rfl rfl rfl rfl rfl rfl rfl rfl rfl rfl rfl rfl rfl rfl rfl) qs132.2
                exact y_retv hR dX14_readExpr_135 Ws132 (Nat.le_of_ble_eq_true rfl) (Nat.le_of_ble_eq_true rfl) ⟨(rKeep.tr (rKeep.tr (rKeep.tr (rKeep.tr rKeep.rf kJ rfl rfl rfl rfl rfl) qs102.1 rfl rfl rfl rfl rfl) qs106.1 rfl rfl rfl rfl rfl) qs132.1 rfl rfl rfl rfl rfl), h⟩
            · have h := hF c
              exact y_retv hR dX14_readExpr_116 Ws106 (Nat.le_of_ble_eq_true rfl) (Nat.le_of_ble_eq_true rfl) ⟨(rKeep.tr (rKeep.tr (rKeep.tr rKeep.rf kJ rfl rfl rfl rfl rfl) qs102.1 rfl rfl rfl rfl rfl) qs106.1 rfl rfl rfl rfl rfl), h⟩
          · have h := hF c
            refine z_aload_n hC (pc := 49) 0 dX14_readExpr_49 rfl rfl ?_
            refine z_dup hC (pc := 50) dX14_readExpr_50 rfl ?_
            refine y_get hC (pc := 51) zf14 rOb_0 29 (v := iv (rF s33 0 29)) dX14_readExpr_51 zw2496 (rv_i (Or.inl rfl) rfl) (kk := ?_)
            have h := h (Ws33.f _ _)
            refine z_iconst hC (pc := 54) (v := Int32.ofInt 1) dX14_readExpr_54 (by decide) ?_
            refine y_iadd hC (pc := 55) (v := ((rF s33 0 29) + 1)) dX14_readExpr_55 rfl ?_
            obtain ⟨r89, h⟩ := h
            refine y_putI hC (pc := 56) zf14 rOb_0 29 (x := ((rF s33 0 29) + 1)) dX14_readExpr_56 zw2496 (Or.inl rfl) rfl rfl (kk := ?_)
            have W90 := Ws33.sF (q := 0) (f := 29) (x := ((rF s33 0 29) + 1)) r89
            refine z_aload_n hC (pc := 59) 0 dX14_readExpr_59 rfl rfl ?_
            obtain ⟨g91, h⟩ := h
            obtain ⟨p92, h⟩ := h
            obtain ⟨p93, h⟩ := h
            refine y_callVi hC (pc := 60) (As := []) (qX14_readMember ih (sF s33 0 29 ((rF s33 0 29) + 1)) gg g91 W90  p92 p93) dmX14_readMember zf14 rOb_0 dX14_readExpr_60 zw3202 rfl rfl (Nat.le_of_ble_eq_true rfl) (Nat.le_of_ble_eq_true rfl) (by omega) (by omega) (Nat.le_of_ble_eq_true rfl) (kk := fun v60 s60 hv60 Ws60 qs60 => ?_)
            have h := h v60 s60 hv60 Ws60 (TPRp.keep qs60.1 rfl rfl rfl) (CCp.keep qs60.1 rfl rfl rfl rfl rfl rfl rfl) (qs60.1.R rfl) (qs60.1.F rfl) (qs60.1.F rfl) (qs60.1.F rfl) (qs60.1.F rfl) (qs60.1.F rfl) (qs60.1.F rfl) (fun i => qs60.1.A (f := 26) (by decide) rfl) qs60.2
            refine z_istore hC (pc := 63) (lv' := [(6, iv v60), (0, .ref (κ 0)), (1, iv x1), (2, iv y33_2), (3, iv y33_3), (4, iv y33_4), (5, iv y33_5)]) dX14_readExpr_63 (by decide) rfl ?_
            refine z_aload_n hC (pc := 65) 1 dX14_readExpr_65 rfl rfl ?_
            refine y_get hC (pc := 66) zf14 rOb_0 10 (v := iv (rF s60 0 10)) dX14_readExpr_66 zw2478 (rv_i (Or.inl rfl) rfl) (kk := ?_)
            have h := h (Ws60.f _ _)
            obtain ⟨hT, hF⟩ := h
            refine y_if_eq hC (pc := 69) 73 (Ws60.f _ _) dX14_readExpr_69 (by decide) (fun c => ?_) (fun c => ?_)
            · have h := hT c
              refine z_aload_n hC (pc := 73) 1 dX14_readExpr_73 rfl rfl ?_
              refine y_get hC (pc := 74) zf14 rOb_0 7 (v := .ref (κ (rR σ 7))) dX14_readExpr_74 zw2475 (rv_g rfl ((qs60.1.R rfl).trans (kJ.R rfl)) g0) (kk := ?_)
              refine y_getN hC (pc := 77) zf13 (rOb_k g0) 5 (v := .ref (κ (1000 * ((rR σ 7) + 1) + 5))) dX14_readExpr_77 zw2320 (rv_c rfl) (kk := ?_)
              refine z_iload hC (pc := 80) 6 dX14_readExpr_80 rfl ?_
              refine z_iload hC (pc := 82) 0 dX14_readExpr_82 rfl ?_
              obtain ⟨b94, h⟩ := h
              refine y_iast hC (pc := 84) (rAr_k g0 rfl rfl) dX14_readExpr_84 b94 (v := v60) (kk := ?_)
              have W95 := Ws60.sA (p := (1000 * ((rR σ 7) + 1) + 5)) (i := y33_5) (x := v60) hv60
              refine z_iload hC (pc := 85) 0 dX14_readExpr_85 rfl ?_
              refine z_istore hC (pc := 87) (lv' := [(5, iv v60), (6, iv v60), (0, .ref (κ 0)), (1, iv x1), (2, iv y33_2), (3, iv y33_3), (4, iv y33_4)]) dX14_readExpr_87 (by decide) rfl ?_
              refine y_iinc hC (pc := 89) (v := (y33_4 + 1)) (lv' := [(4, iv (y33_4 + 1)), (5, iv v60), (6, iv v60), (0, .ref (κ 0)), (1, iv x1), (2, iv y33_2), (3, iv y33_3)]) 6 dX14_readExpr_89 rfl rfl (by decide) rfl ?_
              refine z_aload_n hC (pc := 92) 3 dX14_readExpr_92 rfl rfl ?_
              obtain ⟨p96, h⟩ := h
              refine y_callVv hC (pc := 93) (As := []) (kX14_blanks l G κ (sT s60 (rR σ 7) 5 y33_5 v60)  W95  p96) dmX14_blanks zf14 rOb_0 dX14_readExpr_93 zw3119 rfl rfl (Nat.le_of_ble_eq_true rfl) (Nat.le_of_ble_eq_true rfl) (by omega) (by omega) (Nat.le_of_ble_eq_true rfl) (kk := fun s93 Ws93 qs93 => ?_)
              have h := h s93 Ws93 (rNMp.keep qs93.1 rfl rfl rfl rfl rfl) (TPRp.keep qs93.1 rfl rfl rfl) (WNp.keep qs93.1 rfl rfl rfl rfl rfl) (PNp.keep qs93.1 rfl rfl rfl rfl rfl) (CCp.keep qs93.1 rfl rfl rfl rfl rfl rfl rfl) (qs93.1.R rfl) (qs93.1.F rfl) (qs93.1.F rfl) (qs93.1.F rfl) (qs93.1.F rfl) (qs93.1.F rfl) (qs93.1.F rfl) (qs93.1.F rfl) (qs93.1.F rfl) (qs93.1.F rfl) (qs93.1.F rfl) (fun i => qs93.1.A (f := 26) (by decide) rfl) (fun i => qs93.1.A (f := 34) (by decide) rfl) (fun i => qs93.1.A (f := 35) (by decide) rfl) (fun i => qs93.1.A (f := 37) (by decide) rfl) (fun i => qs93.1.A (f := 40) (by decide) rfl) (qs93.1.FG g0 rfl) (qs93.1.FG g0 rfl) (qs93.1.FG g0 rfl) (qs93.1.FG g0 rfl) (qs93.1.FG g0 rfl) (fun i => qs93.1.AG (f := 33) g0 (by decide) rfl) (fun i => qs93.1.AG (f := 34) g0 (by decide) rfl) (fun i => qs93.1.AG (f := 35) g0 (by decide) rfl) (fz_keep qs93.1 rfl) (RG.keep (c0 := 0) qs93.1 rfl rfl rfl rfl rfl rfl rfl rfl rfl rfl rfl rfl rfl rfl rfl rfl rfl rfl) qs93.2
              refine z_goto hC (pc := 96) 33 dX14_readExpr_96 (by decide) ?_
              refine z_lvs [3, 4, 5, 6, 0, 1] rfl ?_
              obtain ⟨r97, h⟩ := h
              obtain ⟨hI, hm⟩ := h
              exact ih33 s93 y33_2 y33_3 (y33_4 + 1) v60 Ws93 hy33_2 hy33_3 r97 hv60 (rKeep.tr (rKeep.tr (rKeep.tr (rKeep.tr (rKeep.tr rKeep.rf kJ rfl rfl rfl rfl rfl) (rKeep.sF0 (f := 29)) rfl rfl rfl rfl rfl) qs60.1 rfl rfl rfl rfl rfl) (rKeep.sAk (f := 5) g0 (by decide)) rfl rfl rfl rfl rfl) qs93.1 rfl rfl rfl rfl rfl) hI (by omega)
            · have h := hF c
              exact y_retv hR dX14_readExpr_72 Ws60 (Nat.le_of_ble_eq_true rfl) (Nat.le_of_ble_eq_true rfl) ⟨(rKeep.tr (rKeep.tr (rKeep.tr rKeep.rf kJ rfl rfl rfl rfl rfl) (rKeep.sF0 (f := 29)) rfl rfl rfl rfl rfl) qs60.1 rfl rfl rfl rfl rfl), h⟩
    refine z_lvs [4, 5, 3, 2, 1, 0] rfl ?_
    exact j33 _ s15 v5 v10 1 v10 Ws15 hv5 hv10 (r_lit rfl) hv10 (rKeep.tr (rKeep.tr (rKeep.tr rKeep.rf qs5.1 rfl rfl rfl rfl rfl) qs10.1 rfl rfl rfl rfl rfl) qs15.1 rfl rfl rfl rfl rfl) h (Nat.le_refl _)
theorem kX14_readExpre (l : Launch) (G : zG) (κ : Nat → Nat) (n : Nat) (ih : Q_rd l G κ n) (σ : rS) (x1 : Int) (gg : Nat) (g : Nat → Int → Int) (hwf : rWF σ) (hx1 : rng x1) (hp : pre_X14_readExpre σ x1 gg g) (hr : rk_X14_readExpre σ x1 gg g ≤ n + 1) : rMv l G κ yX14_readExpr cX14_readExpr 9 (n + 1 + 100) ((n + 1) * 40 + 3600) [.ref (κ 0), iv x1] σ (fun s => rKeep 0x6c0a3001c00 0x4100001280 0x13c00000000 0x3ee0000d7f 0 σ s ∧ post_X14_readExpre σ x1 gg g s) := wX14_readExpre l G κ n ih σ x1 gg g hwf hx1 (post_X14_readExpre σ x1 gg g) (vX14_readExpre n σ x1 gg g hwf hx1 hp hr) (vX14_readExpre_394 n σ x1 gg g hwf hx1 hp hr) (vX14_readExpre_283 n σ x1 gg g hwf hx1 hp hr) (vX14_readExpre_283m n σ x1 gg g hwf hx1 hp hr) (vX14_readExpre_224 n σ x1 gg g hwf hx1 hp hr) (vX14_readExpre_224m n σ x1 gg g hwf hx1 hp hr) (vX14_readExpre_33 n σ x1 gg g hwf hx1 hp hr) (vX14_readExpre_33m n σ x1 gg g hwf hx1 hp hr)
theorem wX14_readSub (l : Launch) (G : zG) (κ : Nat → Nat) (n : Nat) (ih : Q_rd l G κ n) (σ : rS) (gg : Nat) (g : Nat → Int → Int) (hwf : rWF σ) (Q : Int → rS → Prop) (h : VC_X14_readSub n σ gg g Q) (h_152 : VC_X14_readSub_152 n σ gg g Q) (h_152m : VC_X14_readSub_152m n σ gg g) (h_47 : VC_X14_readSub_47 n σ gg g Q) (h_47m : VC_X14_readSub_47m n σ gg g) : rMi l G κ yX14_readSub cX14_readSub 8 .int (n + 1 + 100) ((n + 1) * 40 + 3600) [.ref (κ 0)] σ (fun x s => rKeep 0x6c0a3001c00 0x4100001280 0x13c00000000 0x3ee0000d7f 0 σ s ∧ Q x s) := by
  refine zMi.intro (by decide +kernel) (Nat.le_of_ble_eq_true rfl) (fun X hC hR => ?_)
  obtain ⟨g0, h⟩ := h
  refine z_aload_n hC (pc := 0) 0 dX14_readSub_0 rfl rfl ?_
  obtain ⟨p10, h⟩ := h
  refine y_callVi hC (pc := 1) (As := []) (kX14_place l G κ σ  hwf  p10) dmX14_place zf14 rOb_0 dX14_readSub_1 zw3103 rfl rfl (Nat.le_of_ble_eq_true rfl) (Nat.le_of_ble_eq_true rfl) (by omega) (by omega) (Nat.le_of_ble_eq_true rfl) (kk := fun v1 s1 hv1 Ws1 qs1 => ?_)
  obtain ⟨es1, qs1⟩ := qs1
  have es1 := es1.symm
  subst es1
  have h := h v1 hv1 qs1
  refine z_istore_n hC (pc := 4) (lv' := [(1, iv v1), (0, .ref (κ 0))]) dX14_readSub_4 rfl (by decide) rfl ?_
  refine z_aload_n hC (pc := 5) 1 dX14_readSub_5 rfl rfl ?_
  refine z_iload_n hC (pc := 6) 0 dX14_readSub_6 rfl rfl ?_
  obtain ⟨p11, h⟩ := h
  refine y_callVv hC (pc := 7) (As := [iv v1]) (kX14_deeper l G κ σ v1 hwf hv1 p11) dmX14_deeper zf14 rOb_0 dX14_readSub_7 zw3178 rfl rfl (Nat.le_of_ble_eq_true rfl) (Nat.le_of_ble_eq_true rfl) (by omega) (by omega) (Nat.le_of_ble_eq_true rfl) (kk := fun s7 Ws7 qs7 => ?_)
  have h := h s7 Ws7 (rNMp.keep qs7.1 rfl rfl rfl rfl rfl) (TPRp.keep qs7.1 rfl rfl rfl) (WNp.keep qs7.1 rfl rfl rfl rfl rfl) (PNp.keep qs7.1 rfl rfl rfl rfl rfl) (CCp.keep qs7.1 rfl rfl rfl rfl rfl rfl rfl) (qs7.1.R rfl) (qs7.1.F rfl) (qs7.1.F rfl) (qs7.1.F rfl) (qs7.1.F rfl) (qs7.1.F rfl) (qs7.1.F rfl) (qs7.1.F rfl) (qs7.1.F rfl) (qs7.1.F rfl) (qs7.1.F rfl) (fun i => qs7.1.A (f := 26) (by decide) rfl) (fun i => qs7.1.A (f := 34) (by decide) rfl) (fun i => qs7.1.A (f := 35) (by decide) rfl) (fun i => qs7.1.A (f := 40) (by decide) rfl) (qs7.1.FG g0 rfl) (qs7.1.FG g0 rfl) (qs7.1.FG g0 rfl) (qs7.1.FG g0 rfl) (qs7.1.FG g0 rfl) (fun i => qs7.1.AG (f := 10) g0 (by decide) rfl) (fun i => qs7.1.AG (f := 11) g0 (by decide) rfl) (fun i => qs7.1.AG (f := 31) g0 (by decide) rfl) (fun i => qs7.1.AG (f := 33) g0 (by decide) rfl) (fun i => qs7.1.AG (f := 34) g0 (by decide) rfl) (fun i => qs7.1.AG (f := 35) g0 (by decide) rfl) (RG.keep (c0 := 0) qs7.1 rfl rfl rfl rfl rfl rfl rfl rfl rfl rfl rfl rfl rfl rfl rfl rfl rfl rfl) qs7.2
  refine z_aload_n hC (pc := 10) 1 dX14_readSub_10 rfl rfl ?_
  refine y_get hC (pc := 11) zf14 rOb_0 10 (v := iv (rF s7 0 10)) dX14_readSub_11 zw2478 (rv_i (Or.inl rfl) rfl) (kk := ?_)
  have h := h (Ws7.f _ _)
  obtain ⟨hT, hF⟩ := h
  refine y_if_eq hC (pc := 14) 19 (Ws7.f _ _) dX14_readSub_14 (by decide) (fun c => ?_) (fun c => ?_)
  · have h := hT c
    refine z_aload_n hC (pc := 19) 1 dX14_readSub_19 rfl rfl ?_
    refine z_dup hC (pc := 20) dX14_readSub_20 rfl ?_
    refine y_get hC (pc := 21) zf14 rOb_0 29 (v := iv (rF σ 0 29)) dX14_readSub_21 zw2496 (rv_i (Or.inl rfl) ((qs7.1.F rfl).trans rfl)) (kk := ?_)
    have h := h (hwf.f _ _)
    refine z_iconst hC (pc := 24) (v := Int32.ofInt 1) dX14_readSub_24 (by decide) ?_
    refine y_iadd hC (pc := 25) (v := ((rF σ 0 29) + 1)) dX14_readSub_25 rfl ?_
    obtain ⟨r12, h⟩ := h
    refine y_putI hC (pc := 26) zf14 rOb_0 29 (x := ((rF σ 0 29) + 1)) dX14_readSub_26 zw2496 (Or.inl rfl) rfl rfl (kk := ?_)
    have W13 := Ws7.sF (q := 0) (f := 29) (x := ((rF σ 0 29) + 1)) r12
    refine z_aload_n hC (pc := 29) 1 dX14_readSub_29 rfl rfl ?_
    refine z_bipush hC (pc := 30) (v := Int32.ofInt 33) dX14_readSub_30 (by decide) ?_
    refine z_iconst hC (pc := 32) (v := Int32.ofInt 0) dX14_readSub_32 (by decide) ?_
    refine z_iconst hC (pc := 33) (v := Int32.ofInt 0) dX14_readSub_33 (by decide) ?_
    refine z_iload_n hC (pc := 34) 0 dX14_readSub_34 rfl rfl ?_
    obtain ⟨p14, h⟩ := h
    refine y_callVi hC (pc := 35) (As := [iv 33, iv 0, iv 0, iv v1]) (kX14_node_t l G κ (sF s7 0 29 ((rF σ 0 29) + 1)) 33 0 0 v1 gg W13 (r_lit rfl) (r_lit rfl) (r_lit rfl) hv1 p14) dmX14_node zf14 rOb_0 dX14_readSub_35 zw3170 rfl rfl (Nat.le_of_ble_eq_true rfl) (Nat.le_of_ble_eq_true rfl) (by omega) (by omega) (Nat.le_of_ble_eq_true rfl) (kk := fun v35 s35 hv35 Ws35 qs35 => ?_)
    have h := h v35 s35 hv35 Ws35 (rNMp.keep qs35.1 rfl rfl rfl rfl rfl) (TPRp.keep qs35.1 rfl rfl rfl) (WNp.keep qs35.1 rfl rfl rfl rfl rfl) (CCp.keep qs35.1 rfl rfl rfl rfl rfl rfl rfl) (qs35.1.R rfl) (qs35.1.F rfl) (qs35.1.F rfl) (qs35.1.F rfl) (qs35.1.F rfl) (qs35.1.F rfl) (qs35.1.F rfl) (qs35.1.F rfl) (qs35.1.F rfl) (qs35.1.F rfl) (qs35.1.F rfl) (qs35.1.F rfl) (qs35.1.F rfl) (fun i => qs35.1.A (f := 26) (by decide) rfl) (fun i => qs35.1.A (f := 34) (by decide) rfl) (fun i => qs35.1.A (f := 35) (by decide) rfl) (fun i => qs35.1.A (f := 40) (by decide) rfl) (qs35.1.FG g0 rfl) (qs35.1.FG g0 rfl) (qs35.1.FG g0 rfl) (qs35.1.FG g0 rfl) (fun i => qs35.1.AG (f := 10) g0 (by decide) rfl) (fun i => qs35.1.AG (f := 11) g0 (by decide) rfl) (fun i => qs35.1.AG (f := 31) g0 (by decide) rfl) (fun i => qs35.1.AG (f := 33) g0 (by decide) rfl) (fun i => qs35.1.AG (f := 34) g0 (by decide) rfl) (fun i => qs35.1.AG (f := 35) g0 (by decide) rfl) (fz_keep qs35.1 rfl) qs35.2
    refine z_istore_n hC (pc := 38) (lv' := [(2, iv v35), (1, iv v1), (0, .ref (κ 0))]) dX14_readSub_38 rfl (by decide) rfl ?_
    refine z_aload_n hC (pc := 39) 2 dX14_readSub_39 rfl rfl ?_
    obtain ⟨p15, h⟩ := h
    refine y_callVi hC (pc := 40) (As := []) (kX14_bar_b l G κ s35  Ws35  p15) dmX14_bar zf14 rOb_0 dX14_readSub_40 zw3226 rfl rfl (Nat.le_of_ble_eq_true rfl) (Nat.le_of_ble_eq_true rfl) (by omega) (by omega) (Nat.le_of_ble_eq_true rfl) (kk := fun v40 s40 hv40 Ws40 qs40 => ?_)
    obtain ⟨es40, qs40⟩ := qs40
    have es40 := es40.symm
    subst es40
    have h := h v40 hv40 qs40
    refine z_istore_n hC (pc := 43) (lv' := [(3, iv v40), (2, iv v35), (1, iv v1), (0, .ref (κ 0))]) dX14_readSub_43 rfl (by decide) rfl ?_
    refine z_iconst hC (pc := 44) (v := Int32.ofInt 0) dX14_readSub_44 (by decide) ?_
    refine z_istore hC (pc := 45) (lv' := [(4, iv 0), (3, iv v40), (2, iv v35), (1, iv v1), (0, .ref (κ 0))]) dX14_readSub_45 (by decide) rfl ?_
    have j47 : ∀ (d47 : Nat), ∀ (s47 : rS) (y47_2 : Int) (y47_3 : Int) (y47_4 : Int), rWF s47 → rng y47_2 → rng y47_3 → rng y47_4 → rKeep 0x6c0a3001c00 0x4100001280 0x13c00000000 0x3ee0000d7f 0 σ s47 → inv_X14_readSub_47 σ gg g s47 y47_2 y47_3 y47_4 → (mu_X14_readSub_47 σ gg g s47 y47_2 y47_3 y47_4) ≤ d47 → zS X G 8 (rW G κ s47) [(0, .ref (κ 0)), (2, iv y47_2), (3, iv y47_3), (4, iv y47_4)] 0 0 47 [] := by
      intro d47
      induction d47 with
      | zero =>
        intro s47 y47_2 y47_3 y47_4 Ws47 hy47_2 hy47_3 hy47_4 kJ hI hmu
        exact absurd hmu (by have := h_47m  s47 y47_2 y47_3 y47_4 Ws47 hy47_2 hy47_3 hy47_4 (TPRp.keep kJ rfl rfl rfl) (CCp.keep kJ rfl rfl rfl rfl rfl rfl rfl) (kJ.R rfl) (kJ.F rfl) (kJ.F rfl) (kJ.F rfl) (kJ.F rfl) (kJ.F rfl) (kJ.F rfl) (fun i => kJ.A (f := 26) (by decide) rfl) hI; omega)
      | succ d47 ih47 =>
        intro s47 y47_2 y47_3 y47_4 Ws47 hy47_2 hy47_3 hy47_4 kJ hI hmu47
        have h := h_47  s47 y47_2 y47_3 y47_4 Ws47 hy47_2 hy47_3 hy47_4 (TPRp.keep kJ rfl rfl rfl) (CCp.keep kJ rfl rfl rfl rfl rfl rfl rfl) (kJ.R rfl) (kJ.F rfl) (kJ.F rfl) (kJ.F rfl) (kJ.F rfl) (kJ.F rfl) (kJ.F rfl) (fun i => kJ.A (f := 26) (by decide) rfl) hI
        refine z_iload_n hC (pc := 47) 2 dX14_readSub_47 rfl rfl ?_
        obtain ⟨hT, hF⟩ := h
        refine y_if_lt hC (pc := 48) 314 hy47_3 dX14_readSub_48 (by decide) (fun c => ?_) (fun c => ?_)
        · have h := hT c
          refine z_iload_n hC (pc := 314) 2 dX14_readSub_314 rfl rfl ?_
          obtain ⟨hT, hF⟩ := h
          refine y_if_lt hC (pc := 315) 325 hy47_3 dX14_readSub_315 (by decide) (fun c => ?_) (fun c => ?_)
          · have h := hT c
            refine z_aload_n hC (pc := 325) 0 dX14_readSub_325 rfl rfl ?_
            refine y_get hC (pc := 326) zf14 rOb_0 7 (v := .ref (κ (rR σ 7))) dX14_readSub_326 zw2475 (rv_g rfl (kJ.R rfl) g0) (kk := ?_)
            refine y_getN hC (pc := 329) zf13 (rOb_k g0) 1 (v := .ref (κ (1000 * ((rR σ 7) + 1) + 1))) dX14_readSub_329 zw2312 (rv_c rfl) (kk := ?_)
            refine z_iload_n hC (pc := 332) 1 dX14_readSub_332 rfl rfl ?_
            refine z_aload_n hC (pc := 333) 0 dX14_readSub_333 rfl rfl ?_
            refine z_iconst hC (pc := 334) (v := Int32.ofInt 1) dX14_readSub_334 (by decide) ?_
            obtain ⟨g16, h⟩ := h
            obtain ⟨p17, h⟩ := h
            obtain ⟨p18, h⟩ := h
            refine y_callVi hC (pc := 335) (As := [iv 1]) (qX14_readText ih s47 1 gg g16 Ws47 (r_lit rfl) p17 p18) dmX14_readText zf14 rOb_0 dX14_readSub_335 zw3095 rfl rfl (Nat.le_of_ble_eq_true rfl) (Nat.le_of_ble_eq_true rfl) (by omega) (by omega) (Nat.le_of_ble_eq_true rfl) (kk := fun v335 s335 hv335 Ws335 qs335 => ?_)
            have h := h v335 s335 hv335 Ws335 (TPRp.keep qs335.1 rfl rfl rfl) (CCp.keep qs335.1 rfl rfl rfl rfl rfl rfl rfl) (qs335.1.R rfl) (qs335.1.F rfl) (qs335.1.F rfl) (qs335.1.F rfl) (qs335.1.F rfl) (qs335.1.F rfl) (qs335.1.F rfl) (fun i => qs335.1.A (f := 26) (by decide) rfl) qs335.2
            obtain ⟨b19, h⟩ := h
            refine y_iast hC (pc := 338) (rAr_k g0 rfl rfl) dX14_readSub_338 b19 (v := v335) (kk := ?_)
            have W20 := Ws335.sA (p := (1000 * ((rR σ 7) + 1) + 1)) (i := y47_2) (x := v335) hv335
            refine z_aload_n hC (pc := 339) 0 dX14_readSub_339 rfl rfl ?_
            refine z_dup hC (pc := 340) dX14_readSub_340 rfl ?_
            refine y_get hC (pc := 341) zf14 rOb_0 31 (v := iv (rF s335 0 31)) dX14_readSub_341 zw2498 (rv_i (Or.inl rfl) rfl) (kk := ?_)
            have h := h (Ws335.f _ _)
            refine z_iconst hC (pc := 344) (v := Int32.ofInt 1) dX14_readSub_344 (by decide) ?_
            refine y_isub hC (pc := 345) (v := ((rF s335 0 31) - 1)) dX14_readSub_345 rfl ?_
            obtain ⟨r21, h⟩ := h
            refine y_putI hC (pc := 346) zf14 rOb_0 31 (x := ((rF s335 0 31) - 1)) dX14_readSub_346 zw2498 (Or.inl rfl) rfl rfl (kk := ?_)
            have W22 := W20.sF (q := 0) (f := 31) (x := ((rF s335 0 31) - 1)) r21
            refine z_iload_n hC (pc := 349) 1 dX14_readSub_349 rfl rfl ?_
            exact y_reti hR dX14_readSub_350 rfl hy47_2 W22 (Nat.le_of_ble_eq_true rfl) (Nat.le_of_ble_eq_true rfl) ⟨(rKeep.tr (rKeep.tr (rKeep.tr (rKeep.tr rKeep.rf kJ rfl rfl rfl rfl rfl) qs335.1 rfl rfl rfl rfl rfl) (rKeep.sAk (f := 1) g0 (by decide)) rfl rfl rfl rfl rfl) (rKeep.sF0 (f := 31)) rfl rfl rfl rfl rfl), h⟩
          · have h := hF c
            refine z_aload_n hC (pc := 318) 0 dX14_readSub_318 rfl rfl ?_
            refine z_iload_n hC (pc := 319) 2 dX14_readSub_319 rfl rfl ?_
            refine z_iconst hC (pc := 320) (v := Int32.ofInt 1) dX14_readSub_320 (by decide) ?_
            refine y_iadd hC (pc := 321) (v := (y47_3 + 1)) dX14_readSub_321 rfl ?_
            obtain ⟨r23, h⟩ := h
            refine y_putI hC (pc := 322) zf14 rOb_0 29 (x := (y47_3 + 1)) dX14_readSub_322 zw2496 (Or.inl rfl) rfl rfl (kk := ?_)
            have W24 := Ws47.sF (q := 0) (f := 29) (x := (y47_3 + 1)) r23
            refine z_aload_n hC (pc := 325) 0 dX14_readSub_325 rfl rfl ?_
            refine y_get hC (pc := 326) zf14 rOb_0 7 (v := .ref (κ (rR σ 7))) dX14_readSub_326 zw2475 (rv_g rfl (kJ.R rfl) g0) (kk := ?_)
            refine y_getN hC (pc := 329) zf13 (rOb_k g0) 1 (v := .ref (κ (1000 * ((rR σ 7) + 1) + 1))) dX14_readSub_329 zw2312 (rv_c rfl) (kk := ?_)
            refine z_iload_n hC (pc := 332) 1 dX14_readSub_332 rfl rfl ?_
            refine z_aload_n hC (pc := 333) 0 dX14_readSub_333 rfl rfl ?_
            refine z_iconst hC (pc := 334) (v := Int32.ofInt 1) dX14_readSub_334 (by decide) ?_
            obtain ⟨g25, h⟩ := h
            obtain ⟨p26, h⟩ := h
            obtain ⟨p27, h⟩ := h
            refine y_callVi hC (pc := 335) (As := [iv 1]) (qX14_readText ih (sF s47 0 29 (y47_3 + 1)) 1 gg g25 W24 (r_lit rfl) p26 p27) dmX14_readText zf14 rOb_0 dX14_readSub_335 zw3095 rfl rfl (Nat.le_of_ble_eq_true rfl) (Nat.le_of_ble_eq_true rfl) (by omega) (by omega) (Nat.le_of_ble_eq_true rfl) (kk := fun v335 s335 hv335 Ws335 qs335 => ?_)
            have h := h v335 s335 hv335 Ws335 (TPRp.keep qs335.1 rfl rfl rfl) (CCp.keep qs335.1 rfl rfl rfl rfl rfl rfl rfl) (qs335.1.R rfl) (qs335.1.F rfl) (qs335.1.F rfl) (qs335.1.F rfl) (qs335.1.F rfl) (qs335.1.F rfl) (qs335.1.F rfl) (fun i => qs335.1.A (f := 26) (by decide) rfl) qs335.2
            obtain ⟨b28, h⟩ := h
            refine y_iast hC (pc := 338) (rAr_k g0 rfl rfl) dX14_readSub_338 b28 (v := v335) (kk := ?_)
            have W29 := Ws335.sA (p := (1000 * ((rR σ 7) + 1) + 1)) (i := y47_2) (x := v335) hv335
            refine z_aload_n hC (pc := 339) 0 dX14_readSub_339 rfl rfl ?_
            refine z_dup hC (pc := 340) dX14_readSub_340 rfl ?_
            refine y_get hC (pc := 341) zf14 rOb_0 31 (v := iv (rF s335 0 31)) dX14_readSub_341 zw2498 (rv_i (Or.inl rfl) rfl) (kk := ?_)
            have h := h (Ws335.f _ _)
            refine z_iconst hC (pc := 344) (v := Int32.ofInt 1) dX14_readSub_344 (by decide) ?_
            refine y_isub hC (pc := 345) (v := ((rF s335 0 31) - 1)) dX14_readSub_345 rfl ?_
            obtain ⟨r30, h⟩ := h
            refine y_putI hC (pc := 346) zf14 rOb_0 31 (x := ((rF s335 0 31) - 1)) dX14_readSub_346 zw2498 (Or.inl rfl) rfl rfl (kk := ?_)
            have W31 := W29.sF (q := 0) (f := 31) (x := ((rF s335 0 31) - 1)) r30
            refine z_iload_n hC (pc := 349) 1 dX14_readSub_349 rfl rfl ?_
            exact y_reti hR dX14_readSub_350 rfl hy47_2 W31 (Nat.le_of_ble_eq_true rfl) (Nat.le_of_ble_eq_true rfl) ⟨(rKeep.tr (rKeep.tr (rKeep.tr (rKeep.tr (rKeep.tr rKeep.rf kJ rfl rfl rfl rfl rfl) (rKeep.sF0 (f := 29)) rfl rfl rfl rfl rfl) qs335.1 rfl rfl rfl rfl rfl) (rKeep.sAk (f := 1) g0 (by decide)) rfl rfl rfl rfl rfl) (rKeep.sF0 (f := 31)) rfl rfl rfl rfl rfl), h⟩
        · have h := hF c
          refine z_aload_n hC (pc := 51) 0 dX14_readSub_51 rfl rfl ?_
          refine y_get hC (pc := 52) zf14 rOb_0 29 (v := iv (rF s47 0 29)) dX14_readSub_52 zw2496 (rv_i (Or.inl rfl) rfl) (kk := ?_)
          have h := h (Ws47.f _ _)
          refine z_iload_n hC (pc := 55) 2 dX14_readSub_55 rfl rfl ?_
          obtain ⟨hT, hF⟩ := h
          refine y_icmp_ge hC (pc := 56) 314 (Ws47.f _ _) hy47_3 dX14_readSub_56 (by decide) (fun c => ?_) (fun c => ?_)
          · have h := hT c
            refine z_iload_n hC (pc := 314) 2 dX14_readSub_314 rfl rfl ?_
            obtain ⟨hT, hF⟩ := h
            refine y_if_lt hC (pc := 315) 325 hy47_3 dX14_readSub_315 (by decide) (fun c => ?_) (fun c => ?_)
            · have h := hT c
              refine z_aload_n hC (pc := 325) 0 dX14_readSub_325 rfl rfl ?_
              refine y_get hC (pc := 326) zf14 rOb_0 7 (v := .ref (κ (rR σ 7))) dX14_readSub_326 zw2475 (rv_g rfl (kJ.R rfl) g0) (kk := ?_)
              refine y_getN hC (pc := 329) zf13 (rOb_k g0) 1 (v := .ref (κ (1000 * ((rR σ 7) + 1) + 1))) dX14_readSub_329 zw2312 (rv_c rfl) (kk := ?_)
              refine z_iload_n hC (pc := 332) 1 dX14_readSub_332 rfl rfl ?_
              refine z_aload_n hC (pc := 333) 0 dX14_readSub_333 rfl rfl ?_
              refine z_iconst hC (pc := 334) (v := Int32.ofInt 1) dX14_readSub_334 (by decide) ?_
              obtain ⟨g32, h⟩ := h
              obtain ⟨p33, h⟩ := h
              obtain ⟨p34, h⟩ := h
              refine y_callVi hC (pc := 335) (As := [iv 1]) (qX14_readText ih s47 1 gg g32 Ws47 (r_lit rfl) p33 p34) dmX14_readText zf14 rOb_0 dX14_readSub_335 zw3095 rfl rfl (Nat.le_of_ble_eq_true rfl) (Nat.le_of_ble_eq_true rfl) (by omega) (by omega) (Nat.le_of_ble_eq_true rfl) (kk := fun v335 s335 hv335 Ws335 qs335 => ?_)
              have h := h v335 s335 hv335 Ws335 (TPRp.keep qs335.1 rfl rfl rfl) (CCp.keep qs335.1 rfl rfl rfl rfl rfl rfl rfl) (qs335.1.R rfl) (qs335.1.F rfl) (qs335.1.F rfl) (qs335.1.F rfl) (qs335.1.F rfl) (qs335.1.F rfl) (qs335.1.F rfl) (fun i => qs335.1.A (f := 26) (by decide) rfl) qs335.2
              obtain ⟨b35, h⟩ := h
              refine y_iast hC (pc := 338) (rAr_k g0 rfl rfl) dX14_readSub_338 b35 (v := v335) (kk := ?_)
              have W36 := Ws335.sA (p := (1000 * ((rR σ 7) + 1) + 1)) (i := y47_2) (x := v335) hv335
              refine z_aload_n hC (pc := 339) 0 dX14_readSub_339 rfl rfl ?_
              refine z_dup hC (pc := 340) dX14_readSub_340 rfl ?_
              refine y_get hC (pc := 341) zf14 rOb_0 31 (v := iv (rF s335 0 31)) dX14_readSub_341 zw2498 (rv_i (Or.inl rfl) rfl) (kk := ?_)
              have h := h (Ws335.f _ _)
              refine z_iconst hC (pc := 344) (v := Int32.ofInt 1) dX14_readSub_344 (by decide) ?_
              refine y_isub hC (pc := 345) (v := ((rF s335 0 31) - 1)) dX14_readSub_345 rfl ?_
              obtain ⟨r37, h⟩ := h
              refine y_putI hC (pc := 346) zf14 rOb_0 31 (x := ((rF s335 0 31) - 1)) dX14_readSub_346 zw2498 (Or.inl rfl) rfl rfl (kk := ?_)
              have W38 := W36.sF (q := 0) (f := 31) (x := ((rF s335 0 31) - 1)) r37
              refine z_iload_n hC (pc := 349) 1 dX14_readSub_349 rfl rfl ?_
              exact y_reti hR dX14_readSub_350 rfl hy47_2 W38 (Nat.le_of_ble_eq_true rfl) (Nat.le_of_ble_eq_true rfl) ⟨(rKeep.tr (rKeep.tr (rKeep.tr (rKeep.tr rKeep.rf kJ rfl rfl rfl rfl rfl) qs335.1 rfl rfl rfl rfl rfl) (rKeep.sAk (f := 1) g0 (by decide)) rfl rfl rfl rfl rfl) (rKeep.sF0 (f := 31)) rfl rfl rfl rfl rfl), h⟩
            · have h := hF c
              refine z_aload_n hC (pc := 318) 0 dX14_readSub_318 rfl rfl ?_
              refine z_iload_n hC (pc := 319) 2 dX14_readSub_319 rfl rfl ?_
              refine z_iconst hC (pc := 320) (v := Int32.ofInt 1) dX14_readSub_320 (by decide) ?_
              refine y_iadd hC (pc := 321) (v := (y47_3 + 1)) dX14_readSub_321 rfl ?_
              obtain ⟨r39, h⟩ := h
              refine y_putI hC (pc := 322) zf14 rOb_0 29 (x := (y47_3 + 1)) dX14_readSub_322 zw2496 (Or.inl rfl) rfl rfl (kk := ?_)
              have W40 := Ws47.sF (q := 0) (f := 29) (x := (y47_3 + 1)) r39
              refine z_aload_n hC (pc := 325) 0 dX14_readSub_325 rfl rfl ?_
              refine y_get hC (pc := 326) zf14 rOb_0 7 (v := .ref (κ (rR σ 7))) dX14_readSub_326 zw2475 (rv_g rfl (kJ.R rfl) g0) (kk := ?_)
              refine y_getN hC (pc := 329) zf13 (rOb_k g0) 1 (v := .ref (κ (1000 * ((rR σ 7) + 1) + 1))) dX14_readSub_329 zw2312 (rv_c rfl) (kk := ?_)
              refine z_iload_n hC (pc := 332) 1 dX14_readSub_332 rfl rfl ?_
              refine z_aload_n hC (pc := 333) 0 dX14_readSub_333 rfl rfl ?_
              refine z_iconst hC (pc := 334) (v := Int32.ofInt 1) dX14_readSub_334 (by decide) ?_
              obtain ⟨g41, h⟩ := h
              obtain ⟨p42, h⟩ := h
              obtain ⟨p43, h⟩ := h
              refine y_callVi hC (pc := 335) (As := [iv 1]) (qX14_readText ih (sF s47 0 29 (y47_3 + 1)) 1 gg g41 W40 (r_lit rfl) p42 p43) dmX14_readText zf14 rOb_0 dX14_readSub_335 zw3095 rfl rfl (Nat.le_of_ble_eq_true rfl) (Nat.le_of_ble_eq_true rfl) (by omega) (by omega) (Nat.le_of_ble_eq_true rfl) (kk := fun v335 s335 hv335 Ws335 qs335 => ?_)
              have h := h v335 s335 hv335 Ws335 (TPRp.keep qs335.1 rfl rfl rfl) (CCp.keep qs335.1 rfl rfl rfl rfl rfl rfl rfl) (qs335.1.R rfl) (qs335.1.F rfl) (qs335.1.F rfl) (qs335.1.F rfl) (qs335.1.F rfl) (qs335.1.F rfl) (qs335.1.F rfl) (fun i => qs335.1.A (f := 26) (by decide) rfl) qs335.2
              obtain ⟨b44, h⟩ := h
              refine y_iast hC (pc := 338) (rAr_k g0 rfl rfl) dX14_readSub_338 b44 (v := v335) (kk := ?_)
              have W45 := Ws335.sA (p := (1000 * ((rR σ 7) + 1) + 1)) (i := y47_2) (x := v335) hv335
              refine z_aload_n hC (pc := 339) 0 dX14_readSub_339 rfl rfl ?_
              refine z_dup hC (pc := 340) dX14_readSub_340 rfl ?_
              refine y_get hC (pc := 341) zf14 rOb_0 31 (v := iv (rF s335 0 31)) dX14_readSub_341 zw2498 (rv_i (Or.inl rfl) rfl) (kk := ?_)
              have h := h (Ws335.f _ _)
              refine z_iconst hC (pc := 344) (v := Int32.ofInt 1) dX14_readSub_344 (by decide) ?_
              refine y_isub hC (pc := 345) (v := ((rF s335 0 31) - 1)) dX14_readSub_345 rfl ?_
              obtain ⟨r46, h⟩ := h
              refine y_putI hC (pc := 346) zf14 rOb_0 31 (x := ((rF s335 0 31) - 1)) dX14_readSub_346 zw2498 (Or.inl rfl) rfl rfl (kk := ?_)
              have W47 := W45.sF (q := 0) (f := 31) (x := ((rF s335 0 31) - 1)) r46
              refine z_iload_n hC (pc := 349) 1 dX14_readSub_349 rfl rfl ?_
              exact y_reti hR dX14_readSub_350 rfl hy47_2 W47 (Nat.le_of_ble_eq_true rfl) (Nat.le_of_ble_eq_true rfl) ⟨(rKeep.tr (rKeep.tr (rKeep.tr (rKeep.tr (rKeep.tr rKeep.rf kJ rfl rfl rfl rfl rfl) (rKeep.sF0 (f := 29)) rfl rfl rfl rfl rfl) qs335.1 rfl rfl rfl rfl rfl) (rKeep.sAk (f := 1) g0 (by decide)) rfl rfl rfl rfl rfl) (rKeep.sF0 (f := 31)) rfl rfl rfl rfl rfl), h⟩
          · have h := hF c
            refine z_aload_n hC (pc := 59) 0 dX14_readSub_59 rfl rfl ?_
            refine y_get hC (pc := 60) zf14 rOb_0 10 (v := iv (rF s47 0 10)) dX14_readSub_60 zw2478 (rv_i (Or.inl rfl) rfl) (kk := ?_)
            have h := h (Ws47.f _ _)
            obtain ⟨hT, hF⟩ := h
            refine y_if_ne hC (pc := 63) 314 (Ws47.f _ _) dX14_readSub_63 (by decide) (fun c => ?_) (fun c => ?_)
            · have h := hT c
              refine z_iload_n hC (pc := 314) 2 dX14_readSub_314 rfl rfl ?_
              obtain ⟨hT, hF⟩ := h
              refine y_if_lt hC (pc := 315) 325 hy47_3 dX14_readSub_315 (by decide) (fun c => ?_) (fun c => ?_)
              · have h := hT c
                refine z_aload_n hC (pc := 325) 0 dX14_readSub_325 rfl rfl ?_
                refine y_get hC (pc := 326) zf14 rOb_0 7 (v := .ref (κ (rR σ 7))) dX14_readSub_326 zw2475 (rv_g rfl (kJ.R rfl) g0) (kk := ?_)
                refine y_getN hC (pc := 329) zf13 (rOb_k g0) 1 (v := .ref (κ (1000 * ((rR σ 7) + 1) + 1))) dX14_readSub_329 zw2312 (rv_c rfl) (kk := ?_)
                refine z_iload_n hC (pc := 332) 1 dX14_readSub_332 rfl rfl ?_
                refine z_aload_n hC (pc := 333) 0 dX14_readSub_333 rfl rfl ?_
                refine z_iconst hC (pc := 334) (v := Int32.ofInt 1) dX14_readSub_334 (by decide) ?_
                obtain ⟨g48, h⟩ := h
                obtain ⟨p49, h⟩ := h
                obtain ⟨p50, h⟩ := h
                refine y_callVi hC (pc := 335) (As := [iv 1]) (qX14_readText ih s47 1 gg g48 Ws47 (r_lit rfl) p49 p50) dmX14_readText zf14 rOb_0 dX14_readSub_335 zw3095 rfl rfl (Nat.le_of_ble_eq_true rfl) (Nat.le_of_ble_eq_true rfl) (by omega) (by omega) (Nat.le_of_ble_eq_true rfl) (kk := fun v335 s335 hv335 Ws335 qs335 => ?_)
                have h := h v335 s335 hv335 Ws335 (TPRp.keep qs335.1 rfl rfl rfl) (CCp.keep qs335.1 rfl rfl rfl rfl rfl rfl rfl) (qs335.1.R rfl) (qs335.1.F rfl) (qs335.1.F rfl) (qs335.1.F rfl) (qs335.1.F rfl) (qs335.1.F rfl) (qs335.1.F rfl) (fun i => qs335.1.A (f := 26) (by decide) rfl) qs335.2
                obtain ⟨b51, h⟩ := h
                refine y_iast hC (pc := 338) (rAr_k g0 rfl rfl) dX14_readSub_338 b51 (v := v335) (kk := ?_)
                have W52 := Ws335.sA (p := (1000 * ((rR σ 7) + 1) + 1)) (i := y47_2) (x := v335) hv335
                refine z_aload_n hC (pc := 339) 0 dX14_readSub_339 rfl rfl ?_
                refine z_dup hC (pc := 340) dX14_readSub_340 rfl ?_
                refine y_get hC (pc := 341) zf14 rOb_0 31 (v := iv (rF s335 0 31)) dX14_readSub_341 zw2498 (rv_i (Or.inl rfl) rfl) (kk := ?_)
                have h := h (Ws335.f _ _)
                refine z_iconst hC (pc := 344) (v := Int32.ofInt 1) dX14_readSub_344 (by decide) ?_
                refine y_isub hC (pc := 345) (v := ((rF s335 0 31) - 1)) dX14_readSub_345 rfl ?_
                obtain ⟨r53, h⟩ := h
                refine y_putI hC (pc := 346) zf14 rOb_0 31 (x := ((rF s335 0 31) - 1)) dX14_readSub_346 zw2498 (Or.inl rfl) rfl rfl (kk := ?_)
                have W54 := W52.sF (q := 0) (f := 31) (x := ((rF s335 0 31) - 1)) r53
                refine z_iload_n hC (pc := 349) 1 dX14_readSub_349 rfl rfl ?_
                exact y_reti hR dX14_readSub_350 rfl hy47_2 W54 (Nat.le_of_ble_eq_true rfl) (Nat.le_of_ble_eq_true rfl) ⟨(rKeep.tr (rKeep.tr (rKeep.tr (rKeep.tr rKeep.rf kJ rfl rfl rfl rfl rfl) qs335.1 rfl rfl rfl rfl rfl) (rKeep.sAk (f := 1) g0 (by decide)) rfl rfl rfl rfl rfl) (rKeep.sF0 (f := 31)) rfl rfl rfl rfl rfl), h⟩
              · have h := hF c
                refine z_aload_n hC (pc := 318) 0 dX14_readSub_318 rfl rfl ?_
                refine z_iload_n hC (pc := 319) 2 dX14_readSub_319 rfl rfl ?_
                refine z_iconst hC (pc := 320) (v := Int32.ofInt 1) dX14_readSub_320 (by decide) ?_
                refine y_iadd hC (pc := 321) (v := (y47_3 + 1)) dX14_readSub_321 rfl ?_
                obtain ⟨r55, h⟩ := h
                refine y_putI hC (pc := 322) zf14 rOb_0 29 (x := (y47_3 + 1)) dX14_readSub_322 zw2496 (Or.inl rfl) rfl rfl (kk := ?_)
                have W56 := Ws47.sF (q := 0) (f := 29) (x := (y47_3 + 1)) r55
                refine z_aload_n hC (pc := 325) 0 dX14_readSub_325 rfl rfl ?_
                refine y_get hC (pc := 326) zf14 rOb_0 7 (v := .ref (κ (rR σ 7))) dX14_readSub_326 zw2475 (rv_g rfl (kJ.R rfl) g0) (kk := ?_)
                refine y_getN hC (pc := 329) zf13 (rOb_k g0) 1 (v := .ref (κ (1000 * ((rR σ 7) + 1) + 1))) dX14_readSub_329 zw2312 (rv_c rfl) (kk := ?_)
                refine z_iload_n hC (pc := 332) 1 dX14_readSub_332 rfl rfl ?_
                refine z_aload_n hC (pc := 333) 0 dX14_readSub_333 rfl rfl ?_
                refine z_iconst hC (pc := 334) (v := Int32.ofInt 1) dX14_readSub_334 (by decide) ?_
                obtain ⟨g57, h⟩ := h
                obtain ⟨p58, h⟩ := h
                obtain ⟨p59, h⟩ := h
                refine y_callVi hC (pc := 335) (As := [iv 1]) (qX14_readText ih (sF s47 0 29 (y47_3 + 1)) 1 gg g57 W56 (r_lit rfl) p58 p59) dmX14_readText zf14 rOb_0 dX14_readSub_335 zw3095 rfl rfl (Nat.le_of_ble_eq_true rfl) (Nat.le_of_ble_eq_true rfl) (by omega) (by omega) (Nat.le_of_ble_eq_true rfl) (kk := fun v335 s335 hv335 Ws335 qs335 => ?_)
                have h := h v335 s335 hv335 Ws335 (TPRp.keep qs335.1 rfl rfl rfl) (CCp.keep qs335.1 rfl rfl rfl rfl rfl rfl rfl) (qs335.1.R rfl) (qs335.1.F rfl) (qs335.1.F rfl) (qs335.1.F rfl) (qs335.1.F rfl) (qs335.1.F rfl) (qs335.1.F rfl) (fun i => qs335.1.A (f := 26) (by decide) rfl) qs335.2
                obtain ⟨b60, h⟩ := h
                refine y_iast hC (pc := 338) (rAr_k g0 rfl rfl) dX14_readSub_338 b60 (v := v335) (kk := ?_)
                have W61 := Ws335.sA (p := (1000 * ((rR σ 7) + 1) + 1)) (i := y47_2) (x := v335) hv335
                refine z_aload_n hC (pc := 339) 0 dX14_readSub_339 rfl rfl ?_
                refine z_dup hC (pc := 340) dX14_readSub_340 rfl ?_
                refine y_get hC (pc := 341) zf14 rOb_0 31 (v := iv (rF s335 0 31)) dX14_readSub_341 zw2498 (rv_i (Or.inl rfl) rfl) (kk := ?_)
                have h := h (Ws335.f _ _)
                refine z_iconst hC (pc := 344) (v := Int32.ofInt 1) dX14_readSub_344 (by decide) ?_
                refine y_isub hC (pc := 345) (v := ((rF s335 0 31) - 1)) dX14_readSub_345 rfl ?_
                obtain ⟨r62, h⟩ := h
                refine y_putI hC (pc := 346) zf14 rOb_0 31 (x := ((rF s335 0 31) - 1)) dX14_readSub_346 zw2498 (Or.inl rfl) rfl rfl (kk := ?_)
                have W63 := W61.sF (q := 0) (f := 31) (x := ((rF s335 0 31) - 1)) r62
                refine z_iload_n hC (pc := 349) 1 dX14_readSub_349 rfl rfl ?_
                exact y_reti hR dX14_readSub_350 rfl hy47_2 W63 (Nat.le_of_ble_eq_true rfl) (Nat.le_of_ble_eq_true rfl) ⟨(rKeep.tr (rKeep.tr (rKeep.tr (rKeep.tr (rKeep.tr rKeep.rf kJ rfl rfl rfl rfl rfl) (rKeep.sF0 (f := 29)) rfl rfl rfl rfl rfl) qs335.1 rfl rfl rfl rfl rfl) (rKeep.sAk (f := 1) g0 (by decide)) rfl rfl rfl rfl rfl) (rKeep.sF0 (f := 31)) rfl rfl rfl rfl rfl), h⟩
            · have h := hF c
              refine z_aload_n hC (pc := 66) 0 dX14_readSub_66 rfl rfl ?_
              obtain ⟨p64, h⟩ := h
              refine y_callVv hC (pc := 67) (As := []) (kX14_blanks_b l G κ s47  Ws47  p64) dmX14_blanks zf14 rOb_0 dX14_readSub_67 zw3119 rfl rfl (Nat.le_of_ble_eq_true rfl) (Nat.le_of_ble_eq_true rfl) (by omega) (by omega) (Nat.le_of_ble_eq_true rfl) (kk := fun s67 Ws67 qs67 => ?_)
              have h := h s67 Ws67 (rNMp.keep qs67.1 rfl rfl rfl rfl rfl) (TPRp.keep qs67.1 rfl rfl rfl) (WNp.keep qs67.1 rfl rfl rfl rfl rfl) (PNp.keep qs67.1 rfl rfl rfl rfl rfl) (CCp.keep qs67.1 rfl rfl rfl rfl rfl rfl rfl) (qs67.1.R rfl) (qs67.1.F rfl) (qs67.1.F rfl) (qs67.1.F rfl) (qs67.1.F rfl) (qs67.1.F rfl) (qs67.1.F rfl) (qs67.1.F rfl) (qs67.1.F rfl) (qs67.1.F rfl) (qs67.1.F rfl) (qs67.1.F rfl) (fun i => qs67.1.A (f := 26) (by decide) rfl) (fun i => qs67.1.A (f := 34) (by decide) rfl) (fun i => qs67.1.A (f := 35) (by decide) rfl) (fun i => qs67.1.A (f := 40) (by decide) rfl) (qs67.1.FG g0 rfl) (qs67.1.FG g0 rfl) (qs67.1.FG g0 rfl) (qs67.1.FG g0 rfl) (qs67.1.FG g0 rfl) (fun i => qs67.1.AG (f := 10) g0 (by decide) rfl) (fun i => qs67.1.AG (f := 11) g0 (by decide) rfl) (fun i => qs67.1.AG (f := 31) g0 (by decide) rfl) (fun i => qs67.1.AG (f := 33) g0 (by decide) rfl) (fun i => qs67.1.AG (f := 34) g0 (by decide) rfl) (fun i => qs67.1.AG (f := 35) g0 (by decide) rfl) (fz_keep qs67.1 rfl) (RG.keep (c0 := 0) qs67.1 rfl rfl rfl rfl rfl rfl rfl rfl rfl rfl rfl rfl rfl rfl rfl rfl rfl rfl) qs67.2
              refine z_aload_n hC (pc := 70) 0 dX14_readSub_70 rfl rfl ?_
              refine y_get hC (pc := 71) zf14 rOb_0 26 (v := .ref (κ 1026)) dX14_readSub_71 zw2493 (rv_c rfl) (kk := ?_)
              refine z_aload_n hC (pc := 74) 0 dX14_readSub_74 rfl rfl ?_
              refine y_get hC (pc := 75) zf14 rOb_0 28 (v := iv (rF s67 0 28)) dX14_readSub_75 zw2495 (rv_i (Or.inl rfl) rfl) (kk := ?_)
              have h := h (Ws67.f _ _)
              refine z_aload_n hC (pc := 78) 0 dX14_readSub_78 rfl rfl ?_
              refine y_get hC (pc := 79) zf14 rOb_0 29 (v := iv (rF s67 0 29)) dX14_readSub_79 zw2496 (rv_i (Or.inl rfl) rfl) (kk := ?_)
              have h := h (Ws67.f _ _)
              obtain ⟨p65, h⟩ := h
              refine y_callSi hC (pc := 82) (As := [.ref (κ 1026), iv (rF s67 0 28), iv (rF s67 0 29)]) (kX14_wordEnd_w l G κ s67 1026 4001 (rF s67 0 28) (rF s67 0 29) Ws67 (rAr_m rfl) (Ws67.f _ _) (Ws67.f _ _) p65) dmX14_wordEnd dX14_readSub_82 zw3009 rfl rfl (Nat.le_of_ble_eq_true rfl) (Nat.le_of_ble_eq_true rfl) (by omega) (by omega) (Nat.le_of_ble_eq_true rfl) (kk := fun v82 s82 hv82 Ws82 qs82 => ?_)
              obtain ⟨es82, qs82⟩ := qs82
              have es82 := es82.symm
              subst es82
              have h := h v82 hv82 qs82
              refine z_istore hC (pc := 85) (lv' := [(5, iv v82), (0, .ref (κ 0)), (2, iv y47_2), (3, iv y47_3), (4, iv y47_4)]) dX14_readSub_85 (by decide) rfl ?_
              refine z_iload hC (pc := 87) 0 dX14_readSub_87 rfl ?_
              refine z_aload_n hC (pc := 89) 1 dX14_readSub_89 rfl rfl ?_
              refine y_get hC (pc := 90) zf14 rOb_0 29 (v := iv (rF s67 0 29)) dX14_readSub_90 zw2496 (rv_i (Or.inl rfl) rfl) (kk := ?_)
              refine y_isub hC (pc := 93) (v := (v82 - (rF s67 0 29))) dX14_readSub_93 rfl ?_
              refine z_bipush hC (pc := 94) (v := Int32.ofInt 16) dX14_readSub_94 (by decide) ?_
              obtain ⟨r66, h⟩ := h
              obtain ⟨hT, hF⟩ := h
              refine y_icmp_le hC (pc := 96) 108 r66 (r_lit rfl) dX14_readSub_96 (by decide) (fun c => ?_) (fun c => ?_)
              · have h := hT c
                refine z_aload_n hC (pc := 108) 1 dX14_readSub_108 rfl rfl ?_
                refine y_get hC (pc := 109) zf14 rOb_0 10 (v := iv (rF s47 0 10)) dX14_readSub_109 zw2478 (rv_i (Or.inl rfl) ((qs67.1.F rfl).trans rfl)) (kk := ?_)
                obtain ⟨hT, hF⟩ := h
                refine y_if_eq hC (pc := 112) 117 (Ws47.f _ _) dX14_readSub_112 (by decide) (fun c => ?_) (fun c => ?_)
                · have h := hT c
                  refine z_aload_n hC (pc := 117) 1 dX14_readSub_117 rfl rfl ?_
                  refine y_get hC (pc := 118) zf14 rOb_0 7 (v := .ref (κ (rR σ 7))) dX14_readSub_118 zw2475 (rv_g rfl ((qs67.1.R rfl).trans (kJ.R rfl)) g0) (kk := ?_)
                  refine z_aload_n hC (pc := 121) 1 dX14_readSub_121 rfl rfl ?_
                  refine y_get hC (pc := 122) zf14 rOb_0 26 (v := .ref (κ 1026)) dX14_readSub_122 zw2493 (rv_c rfl) (kk := ?_)
                  refine z_aload_n hC (pc := 125) 1 dX14_readSub_125 rfl rfl ?_
                  refine y_get hC (pc := 126) zf14 rOb_0 29 (v := iv (rF s67 0 29)) dX14_readSub_126 zw2496 (rv_i (Or.inl rfl) rfl) (kk := ?_)
                  refine z_iload hC (pc := 129) 0 dX14_readSub_129 rfl ?_
                  refine z_aload_n hC (pc := 131) 1 dX14_readSub_131 rfl rfl ?_
                  refine y_get hC (pc := 132) zf14 rOb_0 29 (v := iv (rF s67 0 29)) dX14_readSub_132 zw2496 (rv_i (Or.inl rfl) rfl) (kk := ?_)
                  refine y_isub hC (pc := 135) (v := (v82 - (rF s67 0 29))) dX14_readSub_135 rfl ?_
                  obtain ⟨p67, h⟩ := h
                  refine y_callVi hC (pc := 136) (As := [.ref (κ 1026), iv (rF s67 0 29), iv (v82 - (rF s67 0 29))]) (kX13_name l G κ s67 (rR σ 7) 1026 4001 (rF s67 0 29) (v82 - (rF s67 0 29)) Ws67 g0 (rAr_m rfl) (Ws67.f _ _) r66 p67) dmX13_name zf13 (rOb_k g0) dX14_readSub_136 zw3063 rfl rfl (Nat.le_of_ble_eq_true rfl) (Nat.le_of_ble_eq_true rfl) (by omega) (by omega) (Nat.le_of_ble_eq_true rfl) (kk := fun v136 s136 hv136 Ws136 qs136 => ?_)
                  have h := h v136 s136 hv136 Ws136 (TPRp.keep qs136.1 rfl rfl rfl) (WNp.keep qs136.1 rfl rfl rfl rfl rfl) (PNp.keep qs136.1 rfl rfl rfl rfl rfl) (CCp.keep qs136.1 rfl rfl rfl rfl rfl rfl rfl) (qs136.1.R rfl) (qs136.1.F rfl) (qs136.1.F rfl) (qs136.1.F rfl) (qs136.1.F rfl) (qs136.1.F rfl) (qs136.1.F rfl) (qs136.1.F rfl) (qs136.1.F rfl) (qs136.1.F rfl) (qs136.1.F rfl) (qs136.1.F rfl) (qs136.1.F rfl) (fun i => qs136.1.A (f := 26) (by decide) rfl) (fun i => qs136.1.A (f := 34) (by decide) rfl) (fun i => qs136.1.A (f := 35) (by decide) rfl) (fun i => qs136.1.A (f := 40) (by decide) rfl) (qs136.1.FG g0 rfl) (qs136.1.FG g0 rfl) (qs136.1.FG g0 rfl) (fun i => qs136.1.AG (f := 31) g0 (by decide) rfl) (fun i => qs136.1.AG (f := 33) g0 (by decide) rfl) (fun i => qs136.1.AG (f := 34) g0 (by decide) rfl) (fun i => qs136.1.AG (f := 35) g0 (by decide) rfl) (fz_keep qs136.1 rfl) (RG.keep (c0 := 0) qs136.1 rfl rfl rfl rfl rfl rfl rfl rfl rfl rfl rfl rfl rfl rfl rfl rfl rfl rfl) qs136.2
                  refine z_istore hC (pc := 139) (lv' := [(6, iv v136), (5, iv v82), (0, .ref (κ 0)), (2, iv y47_2), (3, iv y47_3), (4, iv y47_4)]) dX14_readSub_139 (by decide) rfl ?_
                  refine z_aload_n hC (pc := 141) 2 dX14_readSub_141 rfl rfl ?_
                  refine y_get hC (pc := 142) zf14 rOb_0 7 (v := .ref (κ (rR σ 7))) dX14_readSub_142 zw2475 (rv_g rfl ((qs136.1.R rfl).trans ((qs67.1.R rfl).trans (kJ.R rfl))) g0) (kk := ?_)
                  refine y_getN hC (pc := 145) zf13 (rOb_k g0) 2 (v := .ref (κ (1000 * ((rR σ 7) + 1) + 2))) dX14_readSub_145 zw2314 (rv_c rfl) (kk := ?_)
                  refine z_iload_n hC (pc := 148) 3 dX14_readSub_148 rfl rfl ?_
                  obtain ⟨b68, h⟩ := h
                  refine y_iald hC (pc := 149) (rAr_k g0 rfl rfl) dX14_readSub_149 b68 (v := (rA s136 (1000 * ((rR σ 7) + 1) + 2) y47_2)) rfl (kk := ?_)
                  have h := h (Ws136.a _ _)
                  refine z_istore hC (pc := 150) (lv' := [(7, iv (rA s136 (1000 * ((rR σ 7) + 1) + 2) y47_2)), (6, iv v136), (5, iv v82), (0, .ref (κ 0)), (2, iv y47_2), (3, iv y47_3), (4, iv y47_4)]) dX14_readSub_150 (by decide) rfl ?_
                  have j152 : ∀ (d152 : Nat), ∀ (s152 : rS) (y152_2 : Int) (y152_3 : Int) (y152_4 : Int) (y152_5 : Int) (y152_6 : Int) (y152_7 : Int), rWF s152 → rng y152_2 → rng y152_3 → rng y152_4 → rng y152_5 → rng y152_6 → rng y152_7 → rKeep 0x6c0a3001c00 0x4100001280 0x13c00000000 0x3ee0000d7f 0 σ s152 → inv_X14_readSub_152 σ gg g (mu_X14_readSub_47 σ gg g s47 y47_2 y47_3 y47_4) s152 y152_2 y152_3 y152_4 y152_5 y152_6 y152_7 → (mu_X14_readSub_152 σ gg g s152 y152_2 y152_3 y152_4 y152_5 y152_6 y152_7) ≤ d152 → zS X G 8 (rW G κ s152) [(0, .ref (κ 0)), (2, iv y152_2), (3, iv y152_3), (4, iv y152_4), (5, iv y152_5), (6, iv y152_6), (7, iv y152_7)] 0 0 152 [] := by
                    intro d152
                    induction d152 with
                    | zero =>
                      intro s152 y152_2 y152_3 y152_4 y152_5 y152_6 y152_7 Ws152 hy152_2 hy152_3 hy152_4 hy152_5 hy152_6 hy152_7 kJ hI hmu
                      exact absurd hmu (by have := h_152m (mu_X14_readSub_47 σ gg g s47 y47_2 y47_3 y47_4) s152 y152_2 y152_3 y152_4 y152_5 y152_6 y152_7 Ws152 hy152_2 hy152_3 hy152_4 hy152_5 hy152_6 hy152_7 (TPRp.keep kJ rfl rfl rfl) (CCp.keep kJ rfl rfl rfl rfl rfl rfl rfl) (kJ.R rfl) (kJ.F rfl) (kJ.F rfl) (kJ.F rfl) (kJ.F rfl) (kJ.F rfl) (kJ.F rfl) (fun i => kJ.A (f := 26) (by decide) rfl) hI; omega)
                    | succ d152 ih152 =>
                      intro s152 y152_2 y152_3 y152_4 y152_5 y152_6 y152_7 Ws152 hy152_2 hy152_3 hy152_4 hy152_5 hy152_6 hy152_7 kJ hI hmu152
                      have h := h_152 (mu_X14_readSub_47 σ gg g s47 y47_2 y47_3 y47_4) s152 y152_2 y152_3 y152_4 y152_5 y152_6 y152_7 Ws152 hy152_2 hy152_3 hy152_4 hy152_5 hy152_6 hy152_7 (TPRp.keep kJ rfl rfl rfl) (CCp.keep kJ rfl rfl rfl rfl rfl rfl rfl) (kJ.R rfl) (kJ.F rfl) (kJ.F rfl) (kJ.F rfl) (kJ.F rfl) (kJ.F rfl) (kJ.F rfl) (fun i => kJ.A (f := 26) (by decide) rfl) hI
                      refine z_iload hC (pc := 152) 6 dX14_readSub_152 rfl ?_
                      obtain ⟨hT, hF⟩ := h
                      refine y_if_eq hC (pc := 154) 196 hy152_7 dX14_readSub_154 (by decide) (fun c => ?_) (fun c => ?_)
                      · have h := hT c
                        refine z_aload_n hC (pc := 196) 0 dX14_readSub_196 rfl rfl ?_
                        refine y_get hC (pc := 197) zf14 rOb_0 7 (v := .ref (κ (rR σ 7))) dX14_readSub_197 zw2475 (rv_g rfl (kJ.R rfl) g0) (kk := ?_)
                        refine y_getN hC (pc := 200) zf13 (rOb_k g0) 3 (v := .ref (κ (1000 * ((rR σ 7) + 1) + 3))) dX14_readSub_200 zw2316 (rv_c rfl) (kk := ?_)
                        refine z_iload_n hC (pc := 203) 1 dX14_readSub_203 rfl rfl ?_
                        obtain ⟨b69, h⟩ := h
                        refine y_iald hC (pc := 204) (rAr_k g0 rfl rfl) dX14_readSub_204 b69 (v := (rA s152 (1000 * ((rR σ 7) + 1) + 3) y152_2)) rfl (kk := ?_)
                        have h := h (Ws152.a _ _)
                        refine z_bipush hC (pc := 205) (v := Int32.ofInt 12) dX14_readSub_205 (by decide) ?_
                        obtain ⟨hT, hF⟩ := h
                        refine y_icmp_ne hC (pc := 207) 219 (Ws152.a _ _) (r_lit rfl) dX14_readSub_207 (by decide) (fun c => ?_) (fun c => ?_)
                        · have h := hT c
                          refine z_aload_n hC (pc := 219) 0 dX14_readSub_219 rfl rfl ?_
                          refine z_bipush hC (pc := 220) (v := Int32.ofInt 52) dX14_readSub_220 (by decide) ?_
                          refine z_iload hC (pc := 222) 5 dX14_readSub_222 rfl ?_
                          refine z_iconst hC (pc := 224) (v := Int32.ofInt 0) dX14_readSub_224 (by decide) ?_
                          refine z_aload_n hC (pc := 225) 0 dX14_readSub_225 rfl rfl ?_
                          obtain ⟨p70, h⟩ := h
                          refine y_callVi hC (pc := 226) (As := []) (kX14_place l G κ s152  Ws152  p70) dmX14_place zf14 rOb_0 dX14_readSub_226 zw3103 rfl rfl (Nat.le_of_ble_eq_true rfl) (Nat.le_of_ble_eq_true rfl) (by omega) (by omega) (Nat.le_of_ble_eq_true rfl) (kk := fun v226 s226 hv226 Ws226 qs226 => ?_)
                          obtain ⟨es226, qs226⟩ := qs226
                          have es226 := es226.symm
                          subst es226
                          have h := h v226 hv226 qs226
                          obtain ⟨p71, h⟩ := h
                          refine y_callVi hC (pc := 229) (As := [iv 52, iv y152_6, iv 0, iv v226]) (kX14_node_t l G κ s152 52 y152_6 0 v226 gg Ws152 (r_lit rfl) hy152_6 (r_lit rfl) hv226 p71) dmX14_node zf14 rOb_0 dX14_readSub_229 zw3170 rfl rfl (Nat.le_of_ble_eq_true rfl) (Nat.le_of_ble_eq_true rfl) (by omega) (by omega) (Nat.le_of_ble_eq_true rfl) (kk := fun v229 s229 hv229 Ws229 qs229 => ?_)
                          have h := h v229 s229 hv229 Ws229 (rNMp.keep qs229.1 rfl rfl rfl rfl rfl) (TPRp.keep qs229.1 rfl rfl rfl) (WNp.keep qs229.1 rfl rfl rfl rfl rfl) (CCp.keep qs229.1 rfl rfl rfl rfl rfl rfl rfl) (qs229.1.R rfl) (qs229.1.F rfl) (qs229.1.F rfl) (qs229.1.F rfl) (qs229.1.F rfl) (qs229.1.F rfl) (qs229.1.F rfl) (qs229.1.F rfl) (qs229.1.F rfl) (qs229.1.F rfl) (qs229.1.F rfl) (qs229.1.F rfl) (qs229.1.F rfl) (fun i => qs229.1.A (f := 26) (by decide) rfl) (fun i => qs229.1.A (f := 34) (by decide) rfl) (fun i => qs229.1.A (f := 35) (by decide) rfl) (fun i => qs229.1.A (f := 40) (by decide) rfl) (qs229.1.FG g0 rfl) (qs229.1.FG g0 rfl) (qs229.1.FG g0 rfl) (qs229.1.FG g0 rfl) (fun i => qs229.1.AG (f := 10) g0 (by decide) rfl) (fun i => qs229.1.AG (f := 11) g0 (by decide) rfl) (fun i => qs229.1.AG (f := 31) g0 (by decide) rfl) (fun i => qs229.1.AG (f := 33) g0 (by decide) rfl) (fun i => qs229.1.AG (f := 34) g0 (by decide) rfl) (fun i => qs229.1.AG (f := 35) g0 (by decide) rfl) (fz_keep qs229.1 rfl) qs229.2
                          refine z_istore hC (pc := 232) (lv' := [(7, iv v229), (0, .ref (κ 0)), (2, iv y152_2), (3, iv y152_3), (4, iv y152_4), (5, iv y152_5), (6, iv y152_6)]) dX14_readSub_232 (by decide) rfl ?_
                          refine z_iload hC (pc := 234) 4 dX14_readSub_234 rfl ?_
                          obtain ⟨hT, hF⟩ := h
                          refine y_if_ne hC (pc := 236) 253 hy152_4 dX14_readSub_236 (by decide) (fun c => ?_) (fun c => ?_)
                          · have h := hT c
                            refine z_aload_n hC (pc := 253) 1 dX14_readSub_253 rfl rfl ?_
                            refine y_get hC (pc := 254) zf14 rOb_0 7 (v := .ref (κ (rR σ 7))) dX14_readSub_254 zw2475 (rv_g rfl ((qs229.1.R rfl).trans (kJ.R rfl)) g0) (kk := ?_)
                            refine y_getN hC (pc := 257) zf13 (rOb_k g0) 5 (v := .ref (κ (1000 * ((rR σ 7) + 1) + 5))) dX14_readSub_257 zw2320 (rv_c rfl) (kk := ?_)
                            refine z_iload hC (pc := 260) 4 dX14_readSub_260 rfl ?_
                            refine z_iload hC (pc := 262) 0 dX14_readSub_262 rfl ?_
                            obtain ⟨b72, h⟩ := h
                            refine y_iast hC (pc := 264) (rAr_k g0 rfl rfl) dX14_readSub_264 b72 (v := v229) (kk := ?_)
                            have W73 := Ws229.sA (p := (1000 * ((rR σ 7) + 1) + 5)) (i := y152_4) (x := v229) hv229
                            refine z_iload hC (pc := 265) 0 dX14_readSub_265 rfl ?_
                            refine z_istore hC (pc := 267) (lv' := [(4, iv v229), (7, iv v229), (0, .ref (κ 0)), (2, iv y152_2), (3, iv y152_3), (5, iv y152_5), (6, iv y152_6)]) dX14_readSub_267 (by decide) rfl ?_
                            refine z_aload_n hC (pc := 269) 2 dX14_readSub_269 rfl rfl ?_
                            refine y_get hC (pc := 270) zf14 rOb_0 7 (v := .ref (κ (rR σ 7))) dX14_readSub_270 zw2475 (rv_g rfl ((qs229.1.R rfl).trans (kJ.R rfl)) g0) (kk := ?_)
                            refine y_getN hC (pc := 273) zf13 (rOb_k g0) 3 (v := .ref (κ (1000 * ((rR σ 7) + 1) + 3))) dX14_readSub_273 zw2316 (rv_c rfl) (kk := ?_)
                            refine z_iload_n hC (pc := 276) 3 dX14_readSub_276 rfl rfl ?_
                            refine z_dup2 hC (pc := 277) dX14_readSub_277 rfl rfl ?_
                            obtain ⟨b74, h⟩ := h
                            refine y_iald hC (pc := 278) (rAr_k g0 rfl rfl) dX14_readSub_278 b74 (v := (rA s229 (1000 * ((rR σ 7) + 1) + 3) y152_2)) ((A_sA_ne (rk_ff g0 g0 (by decide) (by decide) (by decide))).trans rfl) (kk := ?_)
                            have h := h (Ws229.a _ _)
                            refine z_iconst hC (pc := 279) (v := Int32.ofInt 1) dX14_readSub_279 (by decide) ?_
                            refine y_iadd hC (pc := 280) (v := ((rA s229 (1000 * ((rR σ 7) + 1) + 3) y152_2) + 1)) dX14_readSub_280 rfl ?_
                            obtain ⟨b75, h⟩ := h
                            obtain ⟨r76, h⟩ := h
                            refine y_iast hC (pc := 281) (rAr_k g0 rfl rfl) dX14_readSub_281 b75 (v := ((rA s229 (1000 * ((rR σ 7) + 1) + 3) y152_2) + 1)) (kk := ?_)
                            have W77 := W73.sA (p := (1000 * ((rR σ 7) + 1) + 3)) (i := y152_2) (x := ((rA s229 (1000 * ((rR σ 7) + 1) + 3) y152_2) + 1)) r76
                            refine z_aload_n hC (pc := 282) 2 dX14_readSub_282 rfl rfl ?_
                            refine z_iload hC (pc := 283) 5 dX14_readSub_283 rfl ?_
                            refine y_putI hC (pc := 285) zf14 rOb_0 29 (x := y152_5) dX14_readSub_285 zw2496 (Or.inl rfl) rfl rfl (kk := ?_)
                            have W78 := W77.sF (q := 0) (f := 29) (x := y152_5) hy152_5
                            refine z_aload_n hC (pc := 288) 2 dX14_readSub_288 rfl rfl ?_
                            obtain ⟨p79, h⟩ := h
                            refine y_callVv hC (pc := 289) (As := []) (kX14_blanks_b l G κ (sF (sT (sT s229 (rR σ 7) 5 y152_4 v229) (rR σ 7) 3 y152_2 ((rA s229 (1000 * ((rR σ 7) + 1) + 3) y152_2) + 1)) 0 29 y152_5)  W78  p79) dmX14_blanks zf14 rOb_0 dX14_readSub_289 zw3119 rfl rfl (Nat.le_of_ble_eq_true rfl) (Nat.le_of_ble_eq_true rfl) (by omega) (by omega) (Nat.le_of_ble_eq_true rfl) (kk := fun s289 Ws289 qs289 => ?_)
                            have h := h s289 Ws289 (rNMp.keep qs289.1 rfl rfl rfl rfl rfl) (TPRp.keep qs289.1 rfl rfl rfl) (WNp.keep qs289.1 rfl rfl rfl rfl rfl) (PNp.keep qs289.1 rfl rfl rfl rfl rfl) (CCp.keep qs289.1 rfl rfl rfl rfl rfl rfl rfl) (qs289.1.R rfl) (qs289.1.F rfl) (qs289.1.F rfl) (qs289.1.F rfl) (qs289.1.F rfl) (qs289.1.F rfl) (qs289.1.F rfl) (qs289.1.F rfl) (qs289.1.F rfl) (qs289.1.F rfl) (qs289.1.F rfl) (qs289.1.F rfl) (fun i => qs289.1.A (f := 26) (by decide) rfl) (fun i => qs289.1.A (f := 34) (by decide) rfl) (fun i => qs289.1.A (f := 35) (by decide) rfl) (fun i => qs289.1.A (f := 40) (by decide) rfl) (qs289.1.FG g0 rfl) (qs289.1.FG g0 rfl) (qs289.1.FG g0 rfl) (qs289.1.FG g0 rfl) (qs289.1.FG g0 rfl) (fun i => qs289.1.AG (f := 10) g0 (by decide) rfl) (fun i => qs289.1.AG (f := 11) g0 (by decide) rfl) (fun i => qs289.1.AG (f := 31) g0 (by decide) rfl) (fun i => qs289.1.AG (f := 33) g0 (by decide) rfl) (fun i => qs289.1.AG (f := 34) g0 (by decide) rfl) (fun i => qs289.1.AG (f := 35) g0 (by decide) rfl) (fz_keep qs289.1 rfl) (RG.keep (c0 := 0) qs289.1 rfl rfl rfl rfl rfl rfl rfl rfl rfl rfl rfl rfl rfl rfl rfl rfl rfl rfl) qs289.2
                            refine z_aload_n hC (pc := 292) 2 dX14_readSub_292 rfl rfl ?_
                            obtain ⟨p80, h⟩ := h
                            refine y_callVi hC (pc := 293) (As := []) (kX14_here l G κ s289  Ws289  p80) dmX14_here zf14 rOb_0 dX14_readSub_293 zw3099 rfl rfl (Nat.le_of_ble_eq_true rfl) (Nat.le_of_ble_eq_true rfl) (by omega) (by omega) (Nat.le_of_ble_eq_true rfl) (kk := fun v293 s293 hv293 Ws293 qs293 => ?_)
                            obtain ⟨es293, qs293⟩ := qs293
                            have es293 := es293.symm
                            subst es293
                            have h := h v293 hv293 qs293
                            refine z_bipush hC (pc := 296) (v := Int32.ofInt 44) dX14_readSub_296 (by decide) ?_
                            obtain ⟨hT, hF⟩ := h
                            refine y_icmp_ne hC (pc := 298) 311 hv293 (r_lit rfl) dX14_readSub_298 (by decide) (fun c => ?_) (fun c => ?_)
                            · have h := hT c
                              refine z_goto hC (pc := 311) 47 dX14_readSub_311 (by decide) ?_
                              refine z_lvs [2, 3, 4, 0] rfl ?_
                              obtain ⟨hI, hm⟩ := h
                              exact ih47 s289 y152_2 y152_3 v229 Ws289 hy152_2 hy152_3 hv229 (rKeep.tr (rKeep.tr (rKeep.tr (rKeep.tr (rKeep.tr (rKeep.tr rKeep.rf kJ rfl rfl rfl rfl rfl) qs229.1 rfl rfl rfl rfl rfl) (rKeep.sAk (f := 5) g0 (by decide)) rfl rfl rfl rfl rfl) (rKeep.sAk (f := 3) g0 (by decide)) rfl rfl rfl rfl rfl) (rKeep.sF0 (f := 29)) rfl rfl rfl rfl rfl) qs289.1 rfl rfl rfl rfl rfl) hI (by omega)
                            · have h := hF c
                              refine z_aload_n hC (pc := 301) 2 dX14_readSub_301 rfl rfl ?_
                              refine z_dup hC (pc := 302) dX14_readSub_302 rfl ?_
                              refine y_get hC (pc := 303) zf14 rOb_0 29 (v := iv (rF s289 0 29)) dX14_readSub_303 zw2496 (rv_i (Or.inl rfl) rfl) (kk := ?_)
                              have h := h (Ws289.f _ _)
                              refine z_iconst hC (pc := 306) (v := Int32.ofInt 1) dX14_readSub_306 (by decide) ?_
                              refine y_iadd hC (pc := 307) (v := ((rF s289 0 29) + 1)) dX14_readSub_307 rfl ?_
                              obtain ⟨r81, h⟩ := h
                              refine y_putI hC (pc := 308) zf14 rOb_0 29 (x := ((rF s289 0 29) + 1)) dX14_readSub_308 zw2496 (Or.inl rfl) rfl rfl (kk := ?_)
                              have W82 := Ws289.sF (q := 0) (f := 29) (x := ((rF s289 0 29) + 1)) r81
                              refine z_goto hC (pc := 311) 47 dX14_readSub_311 (by decide) ?_
                              refine z_lvs [2, 3, 4, 0] rfl ?_
                              obtain ⟨hI, hm⟩ := h
                              exact ih47 (sF s289 0 29 ((rF s289 0 29) + 1)) y152_2 y152_3 v229 W82 hy152_2 hy152_3 hv229 (rKeep.tr (rKeep.tr (rKeep.tr (rKeep.tr (rKeep.tr (rKeep.tr (rKeep.tr rKeep.rf kJ rfl rfl rfl rfl rfl) qs229.1 rfl rfl rfl rfl rfl) (rKeep.sAk (f := 5) g0 (by decide)) rfl rfl rfl rfl rfl) (rKeep.sAk (f := 3) g0 (by decide)) rfl rfl rfl rfl rfl) (rKeep.sF0 (f := 29)) rfl rfl rfl rfl rfl) qs289.1 rfl rfl rfl rfl rfl) (rKeep.sF0 (f := 29)) rfl rfl rfl rfl rfl) hI (by omega)
                          · have h := hF c
                            refine z_aload_n hC (pc := 239) 1 dX14_readSub_239 rfl rfl ?_
                            refine y_get hC (pc := 240) zf14 rOb_0 7 (v := .ref (κ (rR σ 7))) dX14_readSub_240 zw2475 (rv_g rfl ((qs229.1.R rfl).trans (kJ.R rfl)) g0) (kk := ?_)
                            refine y_getN hC (pc := 243) zf13 (rOb_k g0) 2 (v := .ref (κ (1000 * ((rR σ 7) + 1) + 2))) dX14_readSub_243 zw2314 (rv_c rfl) (kk := ?_)
                            refine z_iload_n hC (pc := 246) 2 dX14_readSub_246 rfl rfl ?_
                            refine z_iload hC (pc := 247) 0 dX14_readSub_247 rfl ?_
                            obtain ⟨b83, h⟩ := h
                            refine y_iast hC (pc := 249) (rAr_k g0 rfl rfl) dX14_readSub_249 b83 (v := v229) (kk := ?_)
                            have W84 := Ws229.sA (p := (1000 * ((rR σ 7) + 1) + 2)) (i := y152_2) (x := v229) hv229
                            refine z_goto hC (pc := 250) 265 dX14_readSub_250 (by decide) ?_
                            refine z_iload hC (pc := 265) 0 dX14_readSub_265 rfl ?_
                            refine z_istore hC (pc := 267) (lv' := [(4, iv v229), (7, iv v229), (0, .ref (κ 0)), (2, iv y152_2), (3, iv y152_3), (5, iv y152_5), (6, iv y152_6)]) dX14_readSub_267 (by decide) rfl ?_
                            refine z_aload_n hC (pc := 269) 2 dX14_readSub_269 rfl rfl ?_
                            refine y_get hC (pc := 270) zf14 rOb_0 7 (v := .ref (κ (rR σ 7))) dX14_readSub_270 zw2475 (rv_g rfl ((qs229.1.R rfl).trans (kJ.R rfl)) g0) (kk := ?_)
                            refine y_getN hC (pc := 273) zf13 (rOb_k g0) 3 (v := .ref (κ (1000 * ((rR σ 7) + 1) + 3))) dX14_readSub_273 zw2316 (rv_c rfl) (kk := ?_)
                            refine z_iload_n hC (pc := 276) 3 dX14_readSub_276 rfl rfl ?_
                            refine z_dup2 hC (pc := 277) dX14_readSub_277 rfl rfl ?_
                            obtain ⟨b85, h⟩ := h
                            refine y_iald hC (pc := 278) (rAr_k g0 rfl rfl) dX14_readSub_278 b85 (v := (rA s229 (1000 * ((rR σ 7) + 1) + 3) y152_2)) ((A_sA_ne (rk_ff g0 g0 (by decide) (by decide) (by decide))).trans rfl) (kk := ?_)
                            have h := h (Ws229.a _ _)
                            refine z_iconst hC (pc := 279) (v := Int32.ofInt 1) dX14_readSub_279 (by decide) ?_
                            refine y_iadd hC (pc := 280) (v := ((rA s229 (1000 * ((rR σ 7) + 1) + 3) y152_2) + 1)) dX14_readSub_280 rfl ?_
                            obtain ⟨b86, h⟩ := h
                            obtain ⟨r87, h⟩ := h
                            refine y_iast hC (pc := 281) (rAr_k g0 rfl rfl) dX14_readSub_281 b86 (v := ((rA s229 (1000 * ((rR σ 7) + 1) + 3) y152_2) + 1)) (kk := ?_)
                            have W88 := W84.sA (p := (1000 * ((rR σ 7) + 1) + 3)) (i := y152_2) (x := ((rA s229 (1000 * ((rR σ 7) + 1) + 3) y152_2) + 1)) r87
                            refine z_aload_n hC (pc := 282) 2 dX14_readSub_282 rfl rfl ?_
                            refine z_iload hC (pc := 283) 5 dX14_readSub_283 rfl ?_
                            refine y_putI hC (pc := 285) zf14 rOb_0 29 (x := y152_5) dX14_readSub_285 zw2496 (Or.inl rfl) rfl rfl (kk := ?_)
                            have W89 := W88.sF (q := 0) (f := 29) (x := y152_5) hy152_5
                            refine z_aload_n hC (pc := 288) 2 dX14_readSub_288 rfl rfl ?_
                            obtain ⟨p90, h⟩ := h
                            refine y_callVv hC (pc := 289) (As := []) (kX14_blanks_b l G κ (sF (sT (sT s229 (rR σ 7) 2 y152_2 v229) (rR σ 7) 3 y152_2 ((rA s229 (1000 * ((rR σ 7) + 1) + 3) y152_2) + 1)) 0 29 y152_5)  W89  p90) dmX14_blanks zf14 rOb_0 dX14_readSub_289 zw3119 rfl rfl (Nat.le_of_ble_eq_true rfl) (Nat.le_of_ble_eq_true rfl) (by omega) (by omega) (Nat.le_of_ble_eq_true rfl) (kk := fun s289 Ws289 qs289 => ?_)
                            have h := h s289 Ws289 (rNMp.keep qs289.1 rfl rfl rfl rfl rfl) (TPRp.keep qs289.1 rfl rfl rfl) (WNp.keep qs289.1 rfl rfl rfl rfl rfl) (PNp.keep qs289.1 rfl rfl rfl rfl rfl) (CCp.keep qs289.1 rfl rfl rfl rfl rfl rfl rfl) (qs289.1.R rfl) (qs289.1.F rfl) (qs289.1.F rfl) (qs289.1.F rfl) (qs289.1.F rfl) (qs289.1.F rfl) (qs289.1.F rfl) (qs289.1.F rfl) (qs289.1.F rfl) (qs289.1.F rfl) (qs289.1.F rfl) (qs289.1.F rfl) (fun i => qs289.1.A (f := 26) (by decide) rfl) (fun i => qs289.1.A (f := 34) (by decide) rfl) (fun i => qs289.1.A (f := 35) (by decide) rfl) (fun i => qs289.1.A (f := 40) (by decide) rfl) (qs289.1.FG g0 rfl) (qs289.1.FG g0 rfl) (qs289.1.FG g0 rfl) (qs289.1.FG g0 rfl) (qs289.1.FG g0 rfl) (fun i => qs289.1.AG (f := 10) g0 (by decide) rfl) (fun i => qs289.1.AG (f := 11) g0 (by decide) rfl) (fun i => qs289.1.AG (f := 31) g0 (by decide) rfl) (fun i => qs289.1.AG (f := 33) g0 (by decide) rfl) (fun i => qs289.1.AG (f := 34) g0 (by decide) rfl) (fun i => qs289.1.AG (f := 35) g0 (by decide) rfl) (fz_keep qs289.1 rfl) (RG.keep (c0 := 0) qs289.1 rfl rfl rfl rfl rfl rfl rfl rfl rfl rfl rfl rfl rfl rfl rfl rfl rfl rfl) qs289.2
                            refine z_aload_n hC (pc := 292) 2 dX14_readSub_292 rfl rfl ?_
                            obtain ⟨p91, h⟩ := h
                            refine y_callVi hC (pc := 293) (As := []) (kX14_here l G κ s289  Ws289  p91) dmX14_here zf14 rOb_0 dX14_readSub_293 zw3099 rfl rfl (Nat.le_of_ble_eq_true rfl) (Nat.le_of_ble_eq_true rfl) (by omega) (by omega) (Nat.le_of_ble_eq_true rfl) (kk := fun v293 s293 hv293 Ws293 qs293 => ?_)
                            obtain ⟨es293, qs293⟩ := qs293
                            have es293 := es293.symm
                            subst es293
                            have h := h v293 hv293 qs293
                            refine z_bipush hC (pc := 296) (v := Int32.ofInt 44) dX14_readSub_296 (by decide) ?_
                            obtain ⟨hT, hF⟩ := h
                            refine y_icmp_ne hC (pc := 298) 311 hv293 (r_lit rfl) dX14_readSub_298 (by decide) (fun c => ?_) (fun c => ?_)
                            · have h := hT c
                              refine z_goto hC (pc := 311) 47 dX14_readSub_311 (by decide) ?_
                              refine z_lvs [2, 3, 4, 0] rfl ?_
                              obtain ⟨hI, hm⟩ := h
                              exact ih47 s289 y152_2 y152_3 v229 Ws289 hy152_2 hy152_3 hv229 (rKeep.tr (rKeep.tr (rKeep.tr (rKeep.tr (rKeep.tr (rKeep.tr rKeep.rf kJ rfl rfl rfl rfl rfl) qs229.1 rfl rfl rfl rfl rfl) (rKeep.sAk (f := 2) g0 (by decide)) rfl rfl rfl rfl rfl) (rKeep.sAk (f := 3) g0 (by decide)) rfl rfl rfl rfl rfl) (rKeep.sF0 (f := 29)) rfl rfl rfl rfl rfl) qs289.1 rfl rfl rfl rfl rfl) hI (by omega)
                            · have h := hF c
                              refine z_aload_n hC (pc := 301) 2 dX14_readSub_301 rfl rfl ?_
                              refine z_dup hC (pc := 302) dX14_readSub_302 rfl ?_
                              refine y_get hC (pc := 303) zf14 rOb_0 29 (v := iv (rF s289 0 29)) dX14_readSub_303 zw2496 (rv_i (Or.inl rfl) rfl) (kk := ?_)
                              have h := h (Ws289.f _ _)
                              refine z_iconst hC (pc := 306) (v := Int32.ofInt 1) dX14_readSub_306 (by decide) ?_
                              refine y_iadd hC (pc := 307) (v := ((rF s289 0 29) + 1)) dX14_readSub_307 rfl ?_
                              obtain ⟨r92, h⟩ := h
                              refine y_putI hC (pc := 308) zf14 rOb_0 29 (x := ((rF s289 0 29) + 1)) dX14_readSub_308 zw2496 (Or.inl rfl) rfl rfl (kk := ?_)
                              have W93 := Ws289.sF (q := 0) (f := 29) (x := ((rF s289 0 29) + 1)) r92
                              refine z_goto hC (pc := 311) 47 dX14_readSub_311 (by decide) ?_
                              refine z_lvs [2, 3, 4, 0] rfl ?_
                              obtain ⟨hI, hm⟩ := h
                              exact ih47 (sF s289 0 29 ((rF s289 0 29) + 1)) y152_2 y152_3 v229 W93 hy152_2 hy152_3 hv229 (rKeep.tr (rKeep.tr (rKeep.tr (rKeep.tr (rKeep.tr (rKeep.tr (rKeep.tr rKeep.rf kJ rfl rfl rfl rfl rfl) qs229.1 rfl rfl rfl rfl rfl) (rKeep.sAk (f := 2) g0 (by decide)) rfl rfl rfl rfl rfl) (rKeep.sAk (f := 3) g0 (by decide)) rfl rfl rfl rfl rfl) (rKeep.sF0 (f := 29)) rfl rfl rfl rfl rfl) qs289.1 rfl rfl rfl rfl rfl) (rKeep.sF0 (f := 29)) rfl rfl rfl rfl rfl) hI (by omega)
                        · have h := hF c
                          refine z_aload_n hC (pc := 210) 0 dX14_readSub_210 rfl rfl ?_
                          refine z_iconst hC (pc := 211) (v := Int32.ofInt 4) dX14_readSub_211 (by decide) ?_
                          refine z_aload_n hC (pc := 212) 0 dX14_readSub_212 rfl rfl ?_
                          obtain ⟨p94, h⟩ := h
                          refine y_callVi hC (pc := 213) (As := []) (kX14_place l G κ s152  Ws152  p94) dmX14_place zf14 rOb_0 dX14_readSub_213 zw3103 rfl rfl (Nat.le_of_ble_eq_true rfl) (Nat.le_of_ble_eq_true rfl) (by omega) (by omega) (Nat.le_of_ble_eq_true rfl) (kk := fun v213 s213 hv213 Ws213 qs213 => ?_)
                          obtain ⟨es213, qs213⟩ := qs213
                          have es213 := es213.symm
                          subst es213
                          have h := h v213 hv213 qs213
                          obtain ⟨p95, h⟩ := h
                          refine y_callVv hC (pc := 216) (As := [iv 4, iv v213]) (kX14_bad l G κ s152 4 v213 Ws152 (r_lit rfl) hv213 p95) dmX14_bad zf14 rOb_0 dX14_readSub_216 zw3000 rfl rfl (Nat.le_of_ble_eq_true rfl) (Nat.le_of_ble_eq_true rfl) (by omega) (by omega) (Nat.le_of_ble_eq_true rfl) (kk := fun s216 Ws216 qs216 => ?_)
                          have h := h s216 Ws216 (rNMp.keep qs216.1 rfl rfl rfl rfl rfl) (TPRp.keep qs216.1 rfl rfl rfl) (WNp.keep qs216.1 rfl rfl rfl rfl rfl) (PNp.keep qs216.1 rfl rfl rfl rfl rfl) (CCp.keep qs216.1 rfl rfl rfl rfl rfl rfl rfl) (qs216.1.R rfl) (qs216.1.F rfl) (qs216.1.F rfl) (qs216.1.F rfl) (qs216.1.F rfl) (qs216.1.F rfl) (qs216.1.F rfl) (qs216.1.F rfl) (qs216.1.F rfl) (qs216.1.F rfl) (qs216.1.F rfl) (qs216.1.F rfl) (fun i => qs216.1.A (f := 26) (by decide) rfl) (fun i => qs216.1.A (f := 34) (by decide) rfl) (fun i => qs216.1.A (f := 35) (by decide) rfl) (fun i => qs216.1.A (f := 40) (by decide) rfl) (qs216.1.FG g0 rfl) (qs216.1.FG g0 rfl) (qs216.1.FG g0 rfl) (qs216.1.FG g0 rfl) (qs216.1.FG g0 rfl) (fun i => qs216.1.AG (f := 10) g0 (by decide) rfl) (fun i => qs216.1.AG (f := 11) g0 (by decide) rfl) (fun i => qs216.1.AG (f := 31) g0 (by decide) rfl) (fun i => qs216.1.AG (f := 33) g0 (by decide) rfl) (fun i => qs216.1.AG (f := 34) g0 (by decide) rfl) (fun i => qs216.1.AG (f := 35) g0 (by decide) rfl) (RG.keep (c0 := 0) qs216.1 rfl rfl rfl rfl rfl rfl rfl rfl rfl rfl rfl rfl rfl rfl rfl rfl rfl rfl) qs216.2
                          refine z_aload_n hC (pc := 219) 0 dX14_readSub_219 rfl rfl ?_
                          refine z_bipush hC (pc := 220) (v := Int32.ofInt 52) dX14_readSub_220 (by decide) ?_
                          refine z_iload hC (pc := 222) 5 dX14_readSub_222 rfl ?_
                          refine z_iconst hC (pc := 224) (v := Int32.ofInt 0) dX14_readSub_224 (by decide) ?_
                          refine z_aload_n hC (pc := 225) 0 dX14_readSub_225 rfl rfl ?_
                          obtain ⟨p96, h⟩ := h
                          refine y_callVi hC (pc := 226) (As := []) (kX14_place l G κ s216  Ws216  p96) dmX14_place zf14 rOb_0 dX14_readSub_226 zw3103 rfl rfl (Nat.le_of_ble_eq_true rfl) (Nat.le_of_ble_eq_true rfl) (by omega) (by omega) (Nat.le_of_ble_eq_true rfl) (kk := fun v226 s226 hv226 Ws226 qs226 => ?_)
                          obtain ⟨es226, qs226⟩ := qs226
                          have es226 := es226.symm
                          subst es226
                          have h := h v226 hv226 qs226
                          obtain ⟨p97, h⟩ := h
                          refine y_callVi hC (pc := 229) (As := [iv 52, iv y152_6, iv 0, iv v226]) (kX14_node_t l G κ s216 52 y152_6 0 v226 gg Ws216 (r_lit rfl) hy152_6 (r_lit rfl) hv226 p97) dmX14_node zf14 rOb_0 dX14_readSub_229 zw3170 rfl rfl (Nat.le_of_ble_eq_true rfl) (Nat.le_of_ble_eq_true rfl) (by omega) (by omega) (Nat.le_of_ble_eq_true rfl) (kk := fun v229 s229 hv229 Ws229 qs229 => ?_)
                          have h := h v229 s229 hv229 Ws229 (rNMp.keep qs229.1 rfl rfl rfl rfl rfl) (TPRp.keep qs229.1 rfl rfl rfl) (WNp.keep qs229.1 rfl rfl rfl rfl rfl) (CCp.keep qs229.1 rfl rfl rfl rfl rfl rfl rfl) (qs229.1.R rfl) (qs229.1.F rfl) (qs229.1.F rfl) (qs229.1.F rfl) (qs229.1.F rfl) (qs229.1.F rfl) (qs229.1.F rfl) (qs229.1.F rfl) (qs229.1.F rfl) (qs229.1.F rfl) (qs229.1.F rfl) (qs229.1.F rfl) (qs229.1.F rfl) (fun i => qs229.1.A (f := 26) (by decide) rfl) (fun i => qs229.1.A (f := 34) (by decide) rfl) (fun i => qs229.1.A (f := 35) (by decide) rfl) (fun i => qs229.1.A (f := 40) (by decide) rfl) (qs229.1.FG g0 rfl) (qs229.1.FG g0 rfl) (qs229.1.FG g0 rfl) (qs229.1.FG g0 rfl) (fun i => qs229.1.AG (f := 10) g0 (by decide) rfl) (fun i => qs229.1.AG (f := 11) g0 (by decide) rfl) (fun i => qs229.1.AG (f := 31) g0 (by decide) rfl) (fun i => qs229.1.AG (f := 33) g0 (by decide) rfl) (fun i => qs229.1.AG (f := 34) g0 (by decide) rfl) (fun i => qs229.1.AG (f := 35) g0 (by decide) rfl) (fz_keep qs229.1 rfl) qs229.2
                          refine z_istore hC (pc := 232) (lv' := [(7, iv v229), (0, .ref (κ 0)), (2, iv y152_2), (3, iv y152_3), (4, iv y152_4), (5, iv y152_5), (6, iv y152_6)]) dX14_readSub_232 (by decide) rfl ?_
                          refine z_iload hC (pc := 234) 4 dX14_readSub_234 rfl ?_
                          obtain ⟨hT, hF⟩ := h
                          refine y_if_ne hC (pc := 236) 253 hy152_4 dX14_readSub_236 (by decide) (fun c => ?_) (fun c => ?_)
                          · have h := hT c
                            refine z_aload_n hC (pc := 253) 1 dX14_readSub_253 rfl rfl ?_
                            refine y_get hC (pc := 254) zf14 rOb_0 7 (v := .ref (κ (rR σ 7))) dX14_readSub_254 zw2475 (rv_g rfl ((qs229.1.R rfl).trans ((qs216.1.R rfl).trans (kJ.R rfl))) g0) (kk := ?_)
                            refine y_getN hC (pc := 257) zf13 (rOb_k g0) 5 (v := .ref (κ (1000 * ((rR σ 7) + 1) + 5))) dX14_readSub_257 zw2320 (rv_c rfl) (kk := ?_)
                            refine z_iload hC (pc := 260) 4 dX14_readSub_260 rfl ?_
                            refine z_iload hC (pc := 262) 0 dX14_readSub_262 rfl ?_
                            obtain ⟨b98, h⟩ := h
                            refine y_iast hC (pc := 264) (rAr_k g0 rfl rfl) dX14_readSub_264 b98 (v := v229) (kk := ?_)
                            have W99 := Ws229.sA (p := (1000 * ((rR σ 7) + 1) + 5)) (i := y152_4) (x := v229) hv229
                            refine z_iload hC (pc := 265) 0 dX14_readSub_265 rfl ?_
                            refine z_istore hC (pc := 267) (lv' := [(4, iv v229), (7, iv v229), (0, .ref (κ 0)), (2, iv y152_2), (3, iv y152_3), (5, iv y152_5), (6, iv y152_6)]) dX14_readSub_267 (by decide) rfl ?_
                            refine z_aload_n hC (pc := 269) 2 dX14_readSub_269 rfl rfl ?_
                            refine y_get hC (pc := 270) zf14 rOb_0 7 (v := .ref (κ (rR σ 7))) dX14_readSub_270 zw2475 (rv_g rfl ((qs229.1.R rfl).trans ((qs216.1.R rfl).trans (kJ.R rfl))) g0) (kk := ?_)
                            refine y_getN hC (pc := 273) zf13 (rOb_k g0) 3 (v := .ref (κ (1000 * ((rR σ 7) + 1) + 3))) dX14_readSub_273 zw2316 (rv_c rfl) (kk := ?_)
                            refine z_iload_n hC (pc := 276) 3 dX14_readSub_276 rfl rfl ?_
                            refine z_dup2 hC (pc := 277) dX14_readSub_277 rfl rfl ?_
                            obtain ⟨b100, h⟩ := h
                            refine y_iald hC (pc := 278) (rAr_k g0 rfl rfl) dX14_readSub_278 b100 (v := (rA s229 (1000 * ((rR σ 7) + 1) + 3) y152_2)) ((A_sA_ne (rk_ff g0 g0 (by decide) (by decide) (by decide))).trans rfl) (kk := ?_)
                            have h := h (Ws229.a _ _)
                            refine z_iconst hC (pc := 279) (v := Int32.ofInt 1) dX14_readSub_279 (by decide) ?_
                            refine y_iadd hC (pc := 280) (v := ((rA s229 (1000 * ((rR σ 7) + 1) + 3) y152_2) + 1)) dX14_readSub_280 rfl ?_
                            obtain ⟨b101, h⟩ := h
                            obtain ⟨r102, h⟩ := h
                            refine y_iast hC (pc := 281) (rAr_k g0 rfl rfl) dX14_readSub_281 b101 (v := ((rA s229 (1000 * ((rR σ 7) + 1) + 3) y152_2) + 1)) (kk := ?_)
                            have W103 := W99.sA (p := (1000 * ((rR σ 7) + 1) + 3)) (i := y152_2) (x := ((rA s229 (1000 * ((rR σ 7) + 1) + 3) y152_2) + 1)) r102
                            refine z_aload_n hC (pc := 282) 2 dX14_readSub_282 rfl rfl ?_
                            refine z_iload hC (pc := 283) 5 dX14_readSub_283 rfl ?_
                            refine y_putI hC (pc := 285) zf14 rOb_0 29 (x := y152_5) dX14_readSub_285 zw2496 (Or.inl rfl) rfl rfl (kk := ?_)
                            have W104 := W103.sF (q := 0) (f := 29) (x := y152_5) hy152_5
                            refine z_aload_n hC (pc := 288) 2 dX14_readSub_288 rfl rfl ?_
                            obtain ⟨p105, h⟩ := h
                            refine y_callVv hC (pc := 289) (As := []) (kX14_blanks_b l G κ (sF (sT (sT s229 (rR σ 7) 5 y152_4 v229) (rR σ 7) 3 y152_2 ((rA s229 (1000 * ((rR σ 7) + 1) + 3) y152_2) + 1)) 0 29 y152_5)  W104  p105) dmX14_blanks zf14 rOb_0 dX14_readSub_289 zw3119 rfl rfl (Nat.le_of_ble_eq_true rfl) (Nat.le_of_ble_eq_true rfl) (by omega) (by omega) (Nat.le_of_ble_eq_true rfl) (kk := fun s289 Ws289 qs289 => ?_)
                            have h := h s289 Ws289 (rNMp.keep qs289.1 rfl rfl rfl rfl rfl) (TPRp.keep qs289.1 rfl rfl rfl) (WNp.keep qs289.1 rfl rfl rfl rfl rfl) (PNp.keep qs289.1 rfl rfl rfl rfl rfl) (CCp.keep qs289.1 rfl rfl rfl rfl rfl rfl rfl) (qs289.1.R rfl) (qs289.1.F rfl) (qs289.1.F rfl) (qs289.1.F rfl) (qs289.1.F rfl) (qs289.1.F rfl) (qs289.1.F rfl) (qs289.1.F rfl) (qs289.1.F rfl) (qs289.1.F rfl) (qs289.1.F rfl) (qs289.1.F rfl) (fun i => qs289.1.A (f := 26) (by decide) rfl) (fun i => qs289.1.A (f := 34) (by decide) rfl) (fun i => qs289.1.A (f := 35) (by decide) rfl) (fun i => qs289.1.A (f := 40) (by decide) rfl) (qs289.1.FG g0 rfl) (qs289.1.FG g0 rfl) (qs289.1.FG g0 rfl) (qs289.1.FG g0 rfl) (qs289.1.FG g0 rfl) (fun i => qs289.1.AG (f := 10) g0 (by decide) rfl) (fun i => qs289.1.AG (f := 11) g0 (by decide) rfl) (fun i => qs289.1.AG (f := 31) g0 (by decide) rfl) (fun i => qs289.1.AG (f := 33) g0 (by decide) rfl) (fun i => qs289.1.AG (f := 34) g0 (by decide) rfl) (fun i => qs289.1.AG (f := 35) g0 (by decide) rfl) (fz_keep qs289.1 rfl) (RG.keep (c0 := 0) qs289.1 rfl rfl rfl rfl rfl rfl rfl rfl rfl rfl rfl rfl rfl rfl rfl rfl rfl rfl) qs289.2
                            refine z_aload_n hC (pc := 292) 2 dX14_readSub_292 rfl rfl ?_
                            obtain ⟨p106, h⟩ := h
                            refine y_callVi hC (pc := 293) (As := []) (kX14_here l G κ s289  Ws289  p106) dmX14_here zf14 rOb_0 dX14_readSub_293 zw3099 rfl rfl (Nat.le_of_ble_eq_true rfl) (Nat.le_of_ble_eq_true rfl) (by omega) (by omega) (Nat.le_of_ble_eq_true rfl) (kk := fun v293 s293 hv293 Ws293 qs293 => ?_)
                            obtain ⟨es293, qs293⟩ := qs293
                            have es293 := es293.symm
                            subst es293
                            have h := h v293 hv293 qs293
                            refine z_bipush hC (pc := 296) (v := Int32.ofInt 44) dX14_readSub_296 (by decide) ?_
                            obtain ⟨hT, hF⟩ := h
                            refine y_icmp_ne hC (pc := 298) 311 hv293 (r_lit rfl) dX14_readSub_298 (by decide) (fun c => ?_) (fun c => ?_)
                            · have h := hT c
                              refine z_goto hC (pc := 311) 47 dX14_readSub_311 (by decide) ?_
                              refine z_lvs [2, 3, 4, 0] rfl ?_
                              obtain ⟨hI, hm⟩ := h
                              exact ih47 s289 y152_2 y152_3 v229 Ws289 hy152_2 hy152_3 hv229 (rKeep.tr (rKeep.tr (rKeep.tr (rKeep.tr (rKeep.tr (rKeep.tr (rKeep.tr rKeep.rf kJ rfl rfl rfl rfl rfl) qs216.1 rfl rfl rfl rfl rfl) qs229.1 rfl rfl rfl rfl rfl) (rKeep.sAk (f := 5) g0 (by decide)) rfl rfl rfl rfl rfl) (rKeep.sAk (f := 3) g0 (by decide)) rfl rfl rfl rfl rfl) (rKeep.sF0 (f := 29)) rfl rfl rfl rfl rfl) qs289.1 rfl rfl rfl rfl rfl) hI (by omega)
                            · have h := hF c
                              refine z_aload_n hC (pc := 301) 2 dX14_readSub_301 rfl rfl ?_
                              refine z_dup hC (pc := 302) dX14_readSub_302 rfl ?_
                              refine y_get hC (pc := 303) zf14 rOb_0 29 (v := iv (rF s289 0 29)) dX14_readSub_303 zw2496 (rv_i (Or.inl rfl) rfl) (kk := ?_)
                              have h := h (Ws289.f _ _)
                              refine z_iconst hC (pc := 306) (v := Int32.ofInt 1) dX14_readSub_306 (by decide) ?_
                              refine y_iadd hC (pc := 307) (v := ((rF s289 0 29) + 1)) dX14_readSub_307 rfl ?_
                              obtain ⟨r107, h⟩ := h
                              refine y_putI hC (pc := 308) zf14 rOb_0 29 (x := ((rF s289 0 29) + 1)) dX14_readSub_308 zw2496 (Or.inl rfl) rfl rfl (kk := ?_)
                              have W108 := Ws289.sF (q := 0) (f := 29) (x := ((rF s289 0 29) + 1)) r107
                              refine z_goto hC (pc := 311) 47 dX14_readSub_311 (by decide) ?_
                              refine z_lvs [2, 3, 4, 0] rfl ?_
                              obtain ⟨hI, hm⟩ := h
                              exact ih47 (sF s289 0 29 ((rF s289 0 29) + 1)) y152_2 y152_3 v229 W108 hy152_2 hy152_3 hv229 (rKeep.tr (rKeep.tr (rKeep.tr (rKeep.tr (rKeep.tr (rKeep.tr (rKeep.tr (rKeep.tr rKeep.rf kJ rfl rfl rfl rfl rfl) qs216.1 rfl rfl rfl rfl rfl) qs229.1 rfl rfl rfl rfl rfl) (rKeep.sAk (f := 5) g0 (by decide)) rfl rfl rfl rfl rfl) (rKeep.sAk (f := 3) g0 (by decide)) rfl rfl rfl rfl rfl) (rKeep.sF0 (f := 29)) rfl rfl rfl rfl rfl) qs289.1 rfl rfl rfl rfl rfl) (rKeep.sF0 (f := 29)) rfl rfl rfl rfl rfl) hI (by omega)
                          · have h := hF c
                            refine z_aload_n hC (pc := 239) 1 dX14_readSub_239 rfl rfl ?_
                            refine y_get hC (pc := 240) zf14 rOb_0 7 (v := .ref (κ (rR σ 7))) dX14_readSub_240 zw2475 (rv_g rfl ((qs229.1.R rfl).trans ((qs216.1.R rfl).trans (kJ.R rfl))) g0) (kk := ?_)
                            refine y_getN hC (pc := 243) zf13 (rOb_k g0) 2 (v := .ref (κ (1000 * ((rR σ 7) + 1) + 2))) dX14_readSub_243 zw2314 (rv_c rfl) (kk := ?_)
                            refine z_iload_n hC (pc := 246) 2 dX14_readSub_246 rfl rfl ?_
                            refine z_iload hC (pc := 247) 0 dX14_readSub_247 rfl ?_
                            obtain ⟨b109, h⟩ := h
                            refine y_iast hC (pc := 249) (rAr_k g0 rfl rfl) dX14_readSub_249 b109 (v := v229) (kk := ?_)
                            have W110 := Ws229.sA (p := (1000 * ((rR σ 7) + 1) + 2)) (i := y152_2) (x := v229) hv229
                            refine z_goto hC (pc := 250) 265 dX14_readSub_250 (by decide) ?_
                            refine z_iload hC (pc := 265) 0 dX14_readSub_265 rfl ?_
                            refine z_istore hC (pc := 267) (lv' := [(4, iv v229), (7, iv v229), (0, .ref (κ 0)), (2, iv y152_2), (3, iv y152_3), (5, iv y152_5), (6, iv y152_6)]) dX14_readSub_267 (by decide) rfl ?_
                            refine z_aload_n hC (pc := 269) 2 dX14_readSub_269 rfl rfl ?_
                            refine y_get hC (pc := 270) zf14 rOb_0 7 (v := .ref (κ (rR σ 7))) dX14_readSub_270 zw2475 (rv_g rfl ((qs229.1.R rfl).trans ((qs216.1.R rfl).trans (kJ.R rfl))) g0) (kk := ?_)
                            refine y_getN hC (pc := 273) zf13 (rOb_k g0) 3 (v := .ref (κ (1000 * ((rR σ 7) + 1) + 3))) dX14_readSub_273 zw2316 (rv_c rfl) (kk := ?_)
                            refine z_iload_n hC (pc := 276) 3 dX14_readSub_276 rfl rfl ?_
                            refine z_dup2 hC (pc := 277) dX14_readSub_277 rfl rfl ?_
                            obtain ⟨b111, h⟩ := h
                            refine y_iald hC (pc := 278) (rAr_k g0 rfl rfl) dX14_readSub_278 b111 (v := (rA s229 (1000 * ((rR σ 7) + 1) + 3) y152_2)) ((A_sA_ne (rk_ff g0 g0 (by decide) (by decide) (by decide))).trans rfl) (kk := ?_)
                            have h := h (Ws229.a _ _)
                            refine z_iconst hC (pc := 279) (v := Int32.ofInt 1) dX14_readSub_279 (by decide) ?_
                            refine y_iadd hC (pc := 280) (v := ((rA s229 (1000 * ((rR σ 7) + 1) + 3) y152_2) + 1)) dX14_readSub_280 rfl ?_
                            obtain ⟨b112, h⟩ := h
                            obtain ⟨r113, h⟩ := h
                            refine y_iast hC (pc := 281) (rAr_k g0 rfl rfl) dX14_readSub_281 b112 (v := ((rA s229 (1000 * ((rR σ 7) + 1) + 3) y152_2) + 1)) (kk := ?_)
                            have W114 := W110.sA (p := (1000 * ((rR σ 7) + 1) + 3)) (i := y152_2) (x := ((rA s229 (1000 * ((rR σ 7) + 1) + 3) y152_2) + 1)) r113
                            refine z_aload_n hC (pc := 282) 2 dX14_readSub_282 rfl rfl ?_
                            refine z_iload hC (pc := 283) 5 dX14_readSub_283 rfl ?_
                            refine y_putI hC (pc := 285) zf14 rOb_0 29 (x := y152_5) dX14_readSub_285 zw2496 (Or.inl rfl) rfl rfl (kk := ?_)
                            have W115 := W114.sF (q := 0) (f := 29) (x := y152_5) hy152_5
                            refine z_aload_n hC (pc := 288) 2 dX14_readSub_288 rfl rfl ?_
                            obtain ⟨p116, h⟩ := h
                            refine y_callVv hC (pc := 289) (As := []) (kX14_blanks_b l G κ (sF (sT (sT s229 (rR σ 7) 2 y152_2 v229) (rR σ 7) 3 y152_2 ((rA s229 (1000 * ((rR σ 7) + 1) + 3) y152_2) + 1)) 0 29 y152_5)  W115  p116) dmX14_blanks zf14 rOb_0 dX14_readSub_289 zw3119 rfl rfl (Nat.le_of_ble_eq_true rfl) (Nat.le_of_ble_eq_true rfl) (by omega) (by omega) (Nat.le_of_ble_eq_true rfl) (kk := fun s289 Ws289 qs289 => ?_)
                            have h := h s289 Ws289 (rNMp.keep qs289.1 rfl rfl rfl rfl rfl) (TPRp.keep qs289.1 rfl rfl rfl) (WNp.keep qs289.1 rfl rfl rfl rfl rfl) (PNp.keep qs289.1 rfl rfl rfl rfl rfl) (CCp.keep qs289.1 rfl rfl rfl rfl rfl rfl rfl) (qs289.1.R rfl) (qs289.1.F rfl) (qs289.1.F rfl) (qs289.1.F rfl) (qs289.1.F rfl) (qs289.1.F rfl) (qs289.1.F rfl) (qs289.1.F rfl) (qs289.1.F rfl) (qs289.1.F rfl) (qs289.1.F rfl) (qs289.1.F rfl) (fun i => qs289.1.A (f := 26) (by decide) rfl) (fun i => qs289.1.A (f := 34) (by decide) rfl) (fun i => qs289.1.A (f := 35) (by decide) rfl) (fun i => qs289.1.A (f := 40) (by decide) rfl) (qs289.1.FG g0 rfl) (qs289.1.FG g0 rfl) (qs289.1.FG g0 rfl) (qs289.1.FG g0 rfl) (qs289.1.FG g0 rfl) (fun i => qs289.1.AG (f := 10) g0 (by decide) rfl) (fun i => qs289.1.AG (f := 11) g0 (by decide) rfl) (fun i => qs289.1.AG (f := 31) g0 (by decide) rfl) (fun i => qs289.1.AG (f := 33) g0 (by decide) rfl) (fun i => qs289.1.AG (f := 34) g0 (by decide) rfl) (fun i => qs289.1.AG (f := 35) g0 (by decide) rfl) (fz_keep qs289.1 rfl) (RG.keep (c0 := 0) qs289.1 rfl rfl rfl rfl rfl rfl rfl rfl rfl rfl rfl rfl rfl rfl rfl rfl rfl rfl) qs289.2
                            refine z_aload_n hC (pc := 292) 2 dX14_readSub_292 rfl rfl ?_
                            obtain ⟨p117, h⟩ := h
                            refine y_callVi hC (pc := 293) (As := []) (kX14_here l G κ s289  Ws289  p117) dmX14_here zf14 rOb_0 dX14_readSub_293 zw3099 rfl rfl (Nat.le_of_ble_eq_true rfl) (Nat.le_of_ble_eq_true rfl) (by omega) (by omega) (Nat.le_of_ble_eq_true rfl) (kk := fun v293 s293 hv293 Ws293 qs293 => ?_)
                            obtain ⟨es293, qs293⟩ := qs293
                            have es293 := es293.symm
                            subst es293
                            have h := h v293 hv293 qs293
                            refine z_bipush hC (pc := 296) (v := Int32.ofInt 44) dX14_readSub_296 (by decide) ?_
                            obtain ⟨hT, hF⟩ := h
                            refine y_icmp_ne hC (pc := 298) 311 hv293 (r_lit rfl) dX14_readSub_298 (by decide) (fun c => ?_) (fun c => ?_)
                            · have h := hT c
                              refine z_goto hC (pc := 311) 47 dX14_readSub_311 (by decide) ?_
                              refine z_lvs [2, 3, 4, 0] rfl ?_
                              obtain ⟨hI, hm⟩ := h
                              exact ih47 s289 y152_2 y152_3 v229 Ws289 hy152_2 hy152_3 hv229 (rKeep.tr (rKeep.tr (rKeep.tr (rKeep.tr (rKeep.tr (rKeep.tr (rKeep.tr rKeep.rf kJ rfl rfl rfl rfl rfl) qs216.1 rfl rfl rfl rfl rfl) qs229.1 rfl rfl rfl rfl rfl) (rKeep.sAk (f := 2) g0 (by decide)) rfl rfl rfl rfl rfl) (rKeep.sAk (f := 3) g0 (by decide)) rfl rfl rfl rfl rfl) (rKeep.sF0 (f := 29)) rfl rfl rfl rfl rfl) qs289.1 rfl rfl rfl rfl rfl) hI (by omega)
                            · have h := hF c
                              refine z_aload_n hC (pc := 301) 2 dX14_readSub_301 rfl rfl ?_
                              refine z_dup hC (pc := 302) dX14_readSub_302 rfl ?_
                              refine y_get hC (pc := 303) zf14 rOb_0 29 (v := iv (rF s289 0 29)) dX14_readSub_303 zw2496 (rv_i (Or.inl rfl) rfl) (kk := ?_)
                              have h := h (Ws289.f _ _)
                              refine z_iconst hC (pc := 306) (v := Int32.ofInt 1) dX14_readSub_306 (by decide) ?_
                              refine y_iadd hC (pc := 307) (v := ((rF s289 0 29) + 1)) dX14_readSub_307 rfl ?_
                              obtain ⟨r118, h⟩ := h
                              refine y_putI hC (pc := 308) zf14 rOb_0 29 (x := ((rF s289 0 29) + 1)) dX14_readSub_308 zw2496 (Or.inl rfl) rfl rfl (kk := ?_)
                              have W119 := Ws289.sF (q := 0) (f := 29) (x := ((rF s289 0 29) + 1)) r118
                              refine z_goto hC (pc := 311) 47 dX14_readSub_311 (by decide) ?_
                              refine z_lvs [2, 3, 4, 0] rfl ?_
                              obtain ⟨hI, hm⟩ := h
                              exact ih47 (sF s289 0 29 ((rF s289 0 29) + 1)) y152_2 y152_3 v229 W119 hy152_2 hy152_3 hv229 (rKeep.tr (rKeep.tr (rKeep.tr (rKeep.tr (rKeep.tr (rKeep.tr (rKeep.tr (rKeep.tr rKeep.rf kJ rfl rfl rfl rfl rfl) qs216.1 rfl rfl rfl rfl rfl) qs229.1 rfl rfl rfl rfl rfl) (rKeep.sAk (f := 2) g0 (by decide)) rfl rfl rfl rfl rfl) (rKeep.sAk (f := 3) g0 (by decide)) rfl rfl rfl rfl rfl) (rKeep.sF0 (f := 29)) rfl rfl rfl rfl rfl) qs289.1 rfl rfl rfl rfl rfl) (rKeep.sF0 (f := 29)) rfl rfl rfl rfl rfl) hI (by omega)
                      · have h := hF c
                        refine z_aload_n hC (pc := 157) 0 dX14_readSub_157 rfl rfl ?_
                        refine y_get hC (pc := 158) zf14 rOb_0 7 (v := .ref (κ (rR σ 7))) dX14_readSub_158 zw2475 (rv_g rfl (kJ.R rfl) g0) (kk := ?_)
                        refine y_getN hC (pc := 161) zf13 (rOb_k g0) 1 (v := .ref (κ (1000 * ((rR σ 7) + 1) + 1))) dX14_readSub_161 zw2312 (rv_c rfl) (kk := ?_)
                        refine z_iload hC (pc := 164) 6 dX14_readSub_164 rfl ?_
                        obtain ⟨b120, h⟩ := h
                        refine y_iald hC (pc := 166) (rAr_k g0 rfl rfl) dX14_readSub_166 b120 (v := (rA s152 (1000 * ((rR σ 7) + 1) + 1) y152_7)) rfl (kk := ?_)
                        have h := h (Ws152.a _ _)
                        refine z_iload hC (pc := 167) 5 dX14_readSub_167 rfl ?_
                        obtain ⟨hT, hF⟩ := h
                        refine y_icmp_ne hC (pc := 169) 181 (Ws152.a _ _) hy152_6 dX14_readSub_169 (by decide) (fun c => ?_) (fun c => ?_)
                        · have h := hT c
                          refine z_aload_n hC (pc := 181) 0 dX14_readSub_181 rfl rfl ?_
                          refine y_get hC (pc := 182) zf14 rOb_0 7 (v := .ref (κ (rR σ 7))) dX14_readSub_182 zw2475 (rv_g rfl (kJ.R rfl) g0) (kk := ?_)
                          refine y_getN hC (pc := 185) zf13 (rOb_k g0) 5 (v := .ref (κ (1000 * ((rR σ 7) + 1) + 5))) dX14_readSub_185 zw2320 (rv_c rfl) (kk := ?_)
                          refine z_iload hC (pc := 188) 6 dX14_readSub_188 rfl ?_
                          obtain ⟨b121, h⟩ := h
                          refine y_iald hC (pc := 190) (rAr_k g0 rfl rfl) dX14_readSub_190 b121 (v := (rA s152 (1000 * ((rR σ 7) + 1) + 5) y152_7)) rfl (kk := ?_)
                          have h := h (Ws152.a _ _)
                          refine z_istore hC (pc := 191) (lv' := [(7, iv (rA s152 (1000 * ((rR σ 7) + 1) + 5) y152_7)), (0, .ref (κ 0)), (2, iv y152_2), (3, iv y152_3), (4, iv y152_4), (5, iv y152_5), (6, iv y152_6)]) dX14_readSub_191 (by decide) rfl ?_
                          refine z_goto hC (pc := 193) 152 dX14_readSub_193 (by decide) ?_
                          refine z_lvs [1, 2, 3, 4, 5, 6, 0] rfl ?_
                          obtain ⟨hI, hm⟩ := h
                          exact ih152 s152 y152_2 y152_3 y152_4 y152_5 y152_6 (rA s152 (1000 * ((rR σ 7) + 1) + 5) y152_7) Ws152 hy152_2 hy152_3 hy152_4 hy152_5 hy152_6 (Ws152.a _ _) (rKeep.tr rKeep.rf kJ rfl rfl rfl rfl rfl) hI (by omega)
                        · have h := hF c
                          refine z_aload_n hC (pc := 172) 0 dX14_readSub_172 rfl rfl ?_
                          refine z_iconst hC (pc := 173) (v := Int32.ofInt 3) dX14_readSub_173 (by decide) ?_
                          refine z_aload_n hC (pc := 174) 0 dX14_readSub_174 rfl rfl ?_
                          obtain ⟨p122, h⟩ := h
                          refine y_callVi hC (pc := 175) (As := []) (kX14_place l G κ s152  Ws152  p122) dmX14_place zf14 rOb_0 dX14_readSub_175 zw3103 rfl rfl (Nat.le_of_ble_eq_true rfl) (Nat.le_of_ble_eq_true rfl) (by omega) (by omega) (Nat.le_of_ble_eq_true rfl) (kk := fun v175 s175 hv175 Ws175 qs175 => ?_)
                          obtain ⟨es175, qs175⟩ := qs175
                          have es175 := es175.symm
                          subst es175
                          have h := h v175 hv175 qs175
                          obtain ⟨p123, h⟩ := h
                          refine y_callVv hC (pc := 178) (As := [iv 3, iv v175]) (kX14_bad l G κ s152 3 v175 Ws152 (r_lit rfl) hv175 p123) dmX14_bad zf14 rOb_0 dX14_readSub_178 zw3000 rfl rfl (Nat.le_of_ble_eq_true rfl) (Nat.le_of_ble_eq_true rfl) (by omega) (by omega) (Nat.le_of_ble_eq_true rfl) (kk := fun s178 Ws178 qs178 => ?_)
                          have h := h s178 Ws178 (rNMp.keep qs178.1 rfl rfl rfl rfl rfl) (TPRp.keep qs178.1 rfl rfl rfl) (WNp.keep qs178.1 rfl rfl rfl rfl rfl) (PNp.keep qs178.1 rfl rfl rfl rfl rfl) (CCp.keep qs178.1 rfl rfl rfl rfl rfl rfl rfl) (qs178.1.R rfl) (qs178.1.F rfl) (qs178.1.F rfl) (qs178.1.F rfl) (qs178.1.F rfl) (qs178.1.F rfl) (qs178.1.F rfl) (qs178.1.F rfl) (qs178.1.F rfl) (qs178.1.F rfl) (qs178.1.F rfl) (qs178.1.F rfl) (fun i => qs178.1.A (f := 26) (by decide) rfl) (fun i => qs178.1.A (f := 34) (by decide) rfl) (fun i => qs178.1.A (f := 35) (by decide) rfl) (fun i => qs178.1.A (f := 40) (by decide) rfl) (qs178.1.FG g0 rfl) (qs178.1.FG g0 rfl) (qs178.1.FG g0 rfl) (qs178.1.FG g0 rfl) (qs178.1.FG g0 rfl) (fun i => qs178.1.AG (f := 10) g0 (by decide) rfl) (fun i => qs178.1.AG (f := 11) g0 (by decide) rfl) (fun i => qs178.1.AG (f := 31) g0 (by decide) rfl) (fun i => qs178.1.AG (f := 33) g0 (by decide) rfl) (fun i => qs178.1.AG (f := 34) g0 (by decide) rfl) (fun i => qs178.1.AG (f := 35) g0 (by decide) rfl) (RG.keep (c0 := 0) qs178.1 rfl rfl rfl rfl rfl rfl rfl rfl rfl rfl rfl rfl rfl rfl rfl rfl rfl rfl) qs178.2
                          refine z_aload_n hC (pc := 181) 0 dX14_readSub_181 rfl rfl ?_
                          refine y_get hC (pc := 182) zf14 rOb_0 7 (v := .ref (κ (rR σ 7))) dX14_readSub_182 zw2475 (rv_g rfl ((qs178.1.R rfl).trans (kJ.R rfl)) g0) (kk := ?_)
                          refine y_getN hC (pc := 185) zf13 (rOb_k g0) 5 (v := .ref (κ (1000 * ((rR σ 7) + 1) + 5))) dX14_readSub_185 zw2320 (rv_c rfl) (kk := ?_)
                          refine z_iload hC (pc := 188) 6 dX14_readSub_188 rfl ?_
                          obtain ⟨b124, h⟩ := h
                          refine y_iald hC (pc := 190) (rAr_k g0 rfl rfl) dX14_readSub_190 b124 (v := (rA s178 (1000 * ((rR σ 7) + 1) + 5) y152_7)) rfl (kk := ?_)
                          have h := h (Ws178.a _ _)
                          refine z_istore hC (pc := 191) (lv' := [(7, iv (rA s178 (1000 * ((rR σ 7) + 1) + 5) y152_7)), (0, .ref (κ 0)), (2, iv y152_2), (3, iv y152_3), (4, iv y152_4), (5, iv y152_5), (6, iv y152_6)]) dX14_readSub_191 (by decide) rfl ?_
                          refine z_goto hC (pc := 193) 152 dX14_readSub_193 (by decide) ?_
                          refine z_lvs [1, 2, 3, 4, 5, 6, 0] rfl ?_
                          obtain ⟨hI, hm⟩ := h
                          exact ih152 s178 y152_2 y152_3 y152_4 y152_5 y152_6 (rA s178 (1000 * ((rR σ 7) + 1) + 5) y152_7) Ws178 hy152_2 hy152_3 hy152_4 hy152_5 hy152_6 (Ws178.a _ _) (rKeep.tr (rKeep.tr rKeep.rf kJ rfl rfl rfl rfl rfl) qs178.1 rfl rfl rfl rfl rfl) hI (by omega)
                  refine z_lvs [3, 4, 5, 6, 2, 1, 0] rfl ?_
                  exact j152 _ s136 y47_2 y47_3 y47_4 v82 v136 (rA s136 (1000 * ((rR σ 7) + 1) + 2) y47_2) Ws136 hy47_2 hy47_3 hy47_4 hv82 hv136 (Ws136.a _ _) (rKeep.tr (rKeep.tr (rKeep.tr rKeep.rf kJ rfl rfl rfl rfl rfl) qs67.1 rfl rfl rfl rfl rfl) qs136.1 rfl rfl rfl rfl rfl) h (Nat.le_refl _)
                · have h := hF c
                  refine z_iconst hC (pc := 115) (v := Int32.ofInt 0) dX14_readSub_115 (by decide) ?_
                  exact y_reti hR dX14_readSub_116 rfl (r_lit rfl) Ws67 (Nat.le_of_ble_eq_true rfl) (Nat.le_of_ble_eq_true rfl) ⟨(rKeep.tr (rKeep.tr rKeep.rf kJ rfl rfl rfl rfl rfl) qs67.1 rfl rfl rfl rfl rfl), h⟩
              · have h := hF c
                refine z_aload_n hC (pc := 99) 1 dX14_readSub_99 rfl rfl ?_
                refine z_iconst hC (pc := 100) (v := Int32.ofInt 2) dX14_readSub_100 (by decide) ?_
                refine z_aload_n hC (pc := 101) 1 dX14_readSub_101 rfl rfl ?_
                obtain ⟨p125, h⟩ := h
                refine y_callVi hC (pc := 102) (As := []) (kX14_place l G κ s67  Ws67  p125) dmX14_place zf14 rOb_0 dX14_readSub_102 zw3103 rfl rfl (Nat.le_of_ble_eq_true rfl) (Nat.le_of_ble_eq_true rfl) (by omega) (by omega) (Nat.le_of_ble_eq_true rfl) (kk := fun v102 s102 hv102 Ws102 qs102 => ?_)
                obtain ⟨es102, qs102⟩ := qs102
                have es102 := es102.symm
                subst es102
                have h := h v102 hv102 qs102
                obtain ⟨p126, h⟩ := h
                refine y_callVv hC (pc := 105) (As := [iv 2, iv v102]) (kX14_bad l G κ s67 2 v102 Ws67 (r_lit rfl) hv102 p126) dmX14_bad zf14 rOb_0 dX14_readSub_105 zw3000 rfl rfl (Nat.le_of_ble_eq_true rfl) (Nat.le_of_ble_eq_true rfl) (by omega) (by omega) (Nat.le_of_ble_eq_true rfl) (kk := fun s105 Ws105 qs105 => ?_)
                have h := h s105 Ws105 (rNMp.keep qs105.1 rfl rfl rfl rfl rfl) (TPRp.keep qs105.1 rfl rfl rfl) (WNp.keep qs105.1 rfl rfl rfl rfl rfl) (PNp.keep qs105.1 rfl rfl rfl rfl rfl) (CCp.keep qs105.1 rfl rfl rfl rfl rfl rfl rfl) (qs105.1.R rfl) (qs105.1.F rfl) (qs105.1.F rfl) (qs105.1.F rfl) (qs105.1.F rfl) (qs105.1.F rfl) (qs105.1.F rfl) (qs105.1.F rfl) (qs105.1.F rfl) (qs105.1.F rfl) (qs105.1.F rfl) (qs105.1.F rfl) (fun i => qs105.1.A (f := 26) (by decide) rfl) (fun i => qs105.1.A (f := 34) (by decide) rfl) (fun i => qs105.1.A (f := 35) (by decide) rfl) (fun i => qs105.1.A (f := 40) (by decide) rfl) (qs105.1.FG g0 rfl) (qs105.1.FG g0 rfl) (qs105.1.FG g0 rfl) (qs105.1.FG g0 rfl) (qs105.1.FG g0 rfl) (fun i => qs105.1.AG (f := 10) g0 (by decide) rfl) (fun i => qs105.1.AG (f := 11) g0 (by decide) rfl) (fun i => qs105.1.AG (f := 31) g0 (by decide) rfl) (fun i => qs105.1.AG (f := 33) g0 (by decide) rfl) (fun i => qs105.1.AG (f := 34) g0 (by decide) rfl) (fun i => qs105.1.AG (f := 35) g0 (by decide) rfl) (RG.keep (c0 := 0) qs105.1 rfl rfl rfl rfl rfl rfl rfl rfl rfl rfl rfl rfl rfl rfl rfl rfl rfl rfl) qs105.2
                refine z_aload_n hC (pc := 108) 1 dX14_readSub_108 rfl rfl ?_
                refine y_get hC (pc := 109) zf14 rOb_0 10 (v := iv (rF s105 0 10)) dX14_readSub_109 zw2478 (rv_i (Or.inl rfl) rfl) (kk := ?_)
                have h := h (Ws105.f _ _)
                obtain ⟨hT, hF⟩ := h
                refine y_if_eq hC (pc := 112) 117 (Ws105.f _ _) dX14_readSub_112 (by decide) (fun c => ?_) (fun c => ?_)
                · have h := hT c
                  refine z_aload_n hC (pc := 117) 1 dX14_readSub_117 rfl rfl ?_
                  refine y_get hC (pc := 118) zf14 rOb_0 7 (v := .ref (κ (rR σ 7))) dX14_readSub_118 zw2475 (rv_g rfl ((qs105.1.R rfl).trans ((qs67.1.R rfl).trans (kJ.R rfl))) g0) (kk := ?_)
                  refine z_aload_n hC (pc := 121) 1 dX14_readSub_121 rfl rfl ?_
                  refine y_get hC (pc := 122) zf14 rOb_0 26 (v := .ref (κ 1026)) dX14_readSub_122 zw2493 (rv_c rfl) (kk := ?_)
                  refine z_aload_n hC (pc := 125) 1 dX14_readSub_125 rfl rfl ?_
                  refine y_get hC (pc := 126) zf14 rOb_0 29 (v := iv (rF s67 0 29)) dX14_readSub_126 zw2496 (rv_i (Or.inl rfl) ((qs105.1.F rfl).trans rfl)) (kk := ?_)
                  refine z_iload hC (pc := 129) 0 dX14_readSub_129 rfl ?_
                  refine z_aload_n hC (pc := 131) 1 dX14_readSub_131 rfl rfl ?_
                  refine y_get hC (pc := 132) zf14 rOb_0 29 (v := iv (rF s67 0 29)) dX14_readSub_132 zw2496 (rv_i (Or.inl rfl) ((qs105.1.F rfl).trans rfl)) (kk := ?_)
                  refine y_isub hC (pc := 135) (v := (v82 - (rF s67 0 29))) dX14_readSub_135 rfl ?_
                  obtain ⟨p127, h⟩ := h
                  refine y_callVi hC (pc := 136) (As := [.ref (κ 1026), iv (rF s67 0 29), iv (v82 - (rF s67 0 29))]) (kX13_name l G κ s105 (rR σ 7) 1026 4001 (rF s67 0 29) (v82 - (rF s67 0 29)) Ws105 g0 (rAr_m rfl) (Ws67.f _ _) r66 p127) dmX13_name zf13 (rOb_k g0) dX14_readSub_136 zw3063 rfl rfl (Nat.le_of_ble_eq_true rfl) (Nat.le_of_ble_eq_true rfl) (by omega) (by omega) (Nat.le_of_ble_eq_true rfl) (kk := fun v136 s136 hv136 Ws136 qs136 => ?_)
                  have h := h v136 s136 hv136 Ws136 (TPRp.keep qs136.1 rfl rfl rfl) (WNp.keep qs136.1 rfl rfl rfl rfl rfl) (PNp.keep qs136.1 rfl rfl rfl rfl rfl) (CCp.keep qs136.1 rfl rfl rfl rfl rfl rfl rfl) (qs136.1.R rfl) (qs136.1.F rfl) (qs136.1.F rfl) (qs136.1.F rfl) (qs136.1.F rfl) (qs136.1.F rfl) (qs136.1.F rfl) (qs136.1.F rfl) (qs136.1.F rfl) (qs136.1.F rfl) (qs136.1.F rfl) (qs136.1.F rfl) (qs136.1.F rfl) (fun i => qs136.1.A (f := 26) (by decide) rfl) (fun i => qs136.1.A (f := 34) (by decide) rfl) (fun i => qs136.1.A (f := 35) (by decide) rfl) (fun i => qs136.1.A (f := 40) (by decide) rfl) (qs136.1.FG g0 rfl) (qs136.1.FG g0 rfl) (qs136.1.FG g0 rfl) (fun i => qs136.1.AG (f := 31) g0 (by decide) rfl) (fun i => qs136.1.AG (f := 33) g0 (by decide) rfl) (fun i => qs136.1.AG (f := 34) g0 (by decide) rfl) (fun i => qs136.1.AG (f := 35) g0 (by decide) rfl) (fz_keep qs136.1 rfl) (RG.keep (c0 := 0) qs136.1 rfl rfl rfl rfl rfl rfl rfl rfl rfl rfl rfl rfl rfl rfl rfl rfl rfl rfl) qs136.2
                  refine z_istore hC (pc := 139) (lv' := [(6, iv v136), (5, iv v82), (0, .ref (κ 0)), (2, iv y47_2), (3, iv y47_3), (4, iv y47_4)]) dX14_readSub_139 (by decide) rfl ?_
                  refine z_aload_n hC (pc := 141) 2 dX14_readSub_141 rfl rfl ?_
                  refine y_get hC (pc := 142) zf14 rOb_0 7 (v := .ref (κ (rR σ 7))) dX14_readSub_142 zw2475 (rv_g rfl ((qs136.1.R rfl).trans ((qs105.1.R rfl).trans ((qs67.1.R rfl).trans (kJ.R rfl)))) g0) (kk := ?_)
                  refine y_getN hC (pc := 145) zf13 (rOb_k g0) 2 (v := .ref (κ (1000 * ((rR σ 7) + 1) + 2))) dX14_readSub_145 zw2314 (rv_c rfl) (kk := ?_)
                  refine z_iload_n hC (pc := 148) 3 dX14_readSub_148 rfl rfl ?_
                  obtain ⟨b128, h⟩ := h
                  refine y_iald hC (pc := 149) (rAr_k g0 rfl rfl) dX14_readSub_149 b128 (v := (rA s136 (1000 * ((rR σ 7) + 1) + 2) y47_2)) rfl (kk := ?_)
                  have h := h (Ws136.a _ _)
                  refine z_istore hC (pc := 150) (lv' := [(7, iv (rA s136 (1000 * ((rR σ 7) + 1) + 2) y47_2)), (6, iv v136), (5, iv v82), (0, .ref (κ 0)), (2, iv y47_2), (3, iv y47_3), (4, iv y47_4)]) dX14_readSub_150 (by decide) rfl ?_
                  have j152 : ∀ (d152 : Nat), ∀ (s152 : rS) (y152_2 : Int) (y152_3 : Int) (y152_4 : Int) (y152_5 : Int) (y152_6 : Int) (y152_7 : Int), rWF s152 → rng y152_2 → rng y152_3 → rng y152_4 → rng y152_5 → rng y152_6 → rng y152_7 → rKeep 0x6c0a3001c00 0x4100001280 0x13c00000000 0x3ee0000d7f 0 σ s152 → inv_X14_readSub_152 σ gg g (mu_X14_readSub_47 σ gg g s47 y47_2 y47_3 y47_4) s152 y152_2 y152_3 y152_4 y152_5 y152_6 y152_7 → (mu_X14_readSub_152 σ gg g s152 y152_2 y152_3 y152_4 y152_5 y152_6 y152_7) ≤ d152 → zS X G 8 (rW G κ s152) [(0, .ref (κ 0)), (2, iv y152_2), (3, iv y152_3), (4, iv y152_4), (5, iv y152_5), (6, iv y152_6), (7, iv y152_7)] 0 0 152 [] := by
                    intro d152
                    induction d152 with
                    | zero =>
                      intro s152 y152_2 y152_3 y152_4 y152_5 y152_6 y152_7 Ws152 hy152_2 hy152_3 hy152_4 hy152_5 hy152_6 hy152_7 kJ hI hmu
                      exact absurd hmu (by have := h_152m (mu_X14_readSub_47 σ gg g s47 y47_2 y47_3 y47_4) s152 y152_2 y152_3 y152_4 y152_5 y152_6 y152_7 Ws152 hy152_2 hy152_3 hy152_4 hy152_5 hy152_6 hy152_7 (TPRp.keep kJ rfl rfl rfl) (CCp.keep kJ rfl rfl rfl rfl rfl rfl rfl) (kJ.R rfl) (kJ.F rfl) (kJ.F rfl) (kJ.F rfl) (kJ.F rfl) (kJ.F rfl) (kJ.F rfl) (fun i => kJ.A (f := 26) (by decide) rfl) hI; omega)
                    | succ d152 ih152 =>
                      intro s152 y152_2 y152_3 y152_4 y152_5 y152_6 y152_7 Ws152 hy152_2 hy152_3 hy152_4 hy152_5 hy152_6 hy152_7 kJ hI hmu152
                      have h := h_152 (mu_X14_readSub_47 σ gg g s47 y47_2 y47_3 y47_4) s152 y152_2 y152_3 y152_4 y152_5 y152_6 y152_7 Ws152 hy152_2 hy152_3 hy152_4 hy152_5 hy152_6 hy152_7 (TPRp.keep kJ rfl rfl rfl) (CCp.keep kJ rfl rfl rfl rfl rfl rfl rfl) (kJ.R rfl) (kJ.F rfl) (kJ.F rfl) (kJ.F rfl) (kJ.F rfl) (kJ.F rfl) (kJ.F rfl) (fun i => kJ.A (f := 26) (by decide) rfl) hI
                      refine z_iload hC (pc := 152) 6 dX14_readSub_152 rfl ?_
                      obtain ⟨hT, hF⟩ := h
                      refine y_if_eq hC (pc := 154) 196 hy152_7 dX14_readSub_154 (by decide) (fun c => ?_) (fun c => ?_)
                      · have h := hT c
                        refine z_aload_n hC (pc := 196) 0 dX14_readSub_196 rfl rfl ?_
                        refine y_get hC (pc := 197) zf14 rOb_0 7 (v := .ref (κ (rR σ 7))) dX14_readSub_197 zw2475 (rv_g rfl (kJ.R rfl) g0) (kk := ?_)
                        refine y_getN hC (pc := 200) zf13 (rOb_k g0) 3 (v := .ref (κ (1000 * ((rR σ 7) + 1) + 3))) dX14_readSub_200 zw2316 (rv_c rfl) (kk := ?_)
                        refine z_iload_n hC (pc := 203) 1 dX14_readSub_203 rfl rfl ?_
                        obtain ⟨b129, h⟩ := h
                        refine y_iald hC (pc := 204) (rAr_k g0 rfl rfl) dX14_readSub_204 b129 (v := (rA s152 (1000 * ((rR σ 7) + 1) + 3) y152_2)) rfl (kk := ?_)
                        have h := h (Ws152.a _ _)
                        refine z_bipush hC (pc := 205) (v := Int32.ofInt 12) dX14_readSub_205 (by decide) ?_
                        obtain ⟨hT, hF⟩ := h
                        refine y_icmp_ne hC (pc := 207) 219 (Ws152.a _ _) (r_lit rfl) dX14_readSub_207 (by decide) (fun c => ?_) (fun c => ?_)
                        · have h := hT c
                          refine z_aload_n hC (pc := 219) 0 dX14_readSub_219 rfl rfl ?_
                          refine z_bipush hC (pc := 220) (v := Int32.ofInt 52) dX14_readSub_220 (by decide) ?_
                          refine z_iload hC (pc := 222) 5 dX14_readSub_222 rfl ?_
                          refine z_iconst hC (pc := 224) (v := Int32.ofInt 0) dX14_readSub_224 (by decide) ?_
                          refine z_aload_n hC (pc := 225) 0 dX14_readSub_225 rfl rfl ?_
                          obtain ⟨p130, h⟩ := h
                          refine y_callVi hC (pc := 226) (As := []) (kX14_place l G κ s152  Ws152  p130) dmX14_place zf14 rOb_0 dX14_readSub_226 zw3103 rfl rfl (Nat.le_of_ble_eq_true rfl) (Nat.le_of_ble_eq_true rfl) (by omega) (by omega) (Nat.le_of_ble_eq_true rfl) (kk := fun v226 s226 hv226 Ws226 qs226 => ?_)
                          obtain ⟨es226, qs226⟩ := qs226
                          have es226 := es226.symm
                          subst es226
                          have h := h v226 hv226 qs226
                          obtain ⟨p131, h⟩ := h
                          refine y_callVi hC (pc := 229) (As := [iv 52, iv y152_6, iv 0, iv v226]) (kX14_node_t l G κ s152 52 y152_6 0 v226 gg Ws152 (r_lit rfl) hy152_6 (r_lit rfl) hv226 p131) dmX14_node zf14 rOb_0 dX14_readSub_229 zw3170 rfl rfl (Nat.le_of_ble_eq_true rfl) (Nat.le_of_ble_eq_true rfl) (by omega) (by omega) (Nat.le_of_ble_eq_true rfl) (kk := fun v229 s229 hv229 Ws229 qs229 => ?_)
                          have h := h v229 s229 hv229 Ws229 (rNMp.keep qs229.1 rfl rfl rfl rfl rfl) (TPRp.keep qs229.1 rfl rfl rfl) (WNp.keep qs229.1 rfl rfl rfl rfl rfl) (CCp.keep qs229.1 rfl rfl rfl rfl rfl rfl rfl) (qs229.1.R rfl) (qs229.1.F rfl) (qs229.1.F rfl) (qs229.1.F rfl) (qs229.1.F rfl) (qs229.1.F rfl) (qs229.1.F rfl) (qs229.1.F rfl) (qs229.1.F rfl) (qs229.1.F rfl) (qs229.1.F rfl) (qs229.1.F rfl) (qs229.1.F rfl) (fun i => qs229.1.A (f := 26) (by decide) rfl) (fun i => qs229.1.A (f := 34) (by decide) rfl) (fun i => qs229.1.A (f := 35) (by decide) rfl) (fun i => qs229.1.A (f := 40) (by decide) rfl) (qs229.1.FG g0 rfl) (qs229.1.FG g0 rfl) (qs229.1.FG g0 rfl) (qs229.1.FG g0 rfl) (fun i => qs229.1.AG (f := 10) g0 (by decide) rfl) (fun i => qs229.1.AG (f := 11) g0 (by decide) rfl) (fun i => qs229.1.AG (f := 31) g0 (by decide) rfl) (fun i => qs229.1.AG (f := 33) g0 (by decide) rfl) (fun i => qs229.1.AG (f := 34) g0 (by decide) rfl) (fun i => qs229.1.AG (f := 35) g0 (by decide) rfl) (fz_keep qs229.1 rfl) qs229.2
                          refine z_istore hC (pc := 232) (lv' := [(7, iv v229), (0, .ref (κ 0)), (2, iv y152_2), (3, iv y152_3), (4, iv y152_4), (5, iv y152_5), (6, iv y152_6)]) dX14_readSub_232 (by decide) rfl ?_
                          refine z_iload hC (pc := 234) 4 dX14_readSub_234 rfl ?_
                          obtain ⟨hT, hF⟩ := h
                          refine y_if_ne hC (pc := 236) 253 hy152_4 dX14_readSub_236 (by decide) (fun c => ?_) (fun c => ?_)
                          · have h := hT c
                            refine z_aload_n hC (pc := 253) 1 dX14_readSub_253 rfl rfl ?_
                            refine y_get hC (pc := 254) zf14 rOb_0 7 (v := .ref (κ (rR σ 7))) dX14_readSub_254 zw2475 (rv_g rfl ((qs229.1.R rfl).trans (kJ.R rfl)) g0) (kk := ?_)
                            refine y_getN hC (pc := 257) zf13 (rOb_k g0) 5 (v := .ref (κ (1000 * ((rR σ 7) + 1) + 5))) dX14_readSub_257 zw2320 (rv_c rfl) (kk := ?_)
                            refine z_iload hC (pc := 260) 4 dX14_readSub_260 rfl ?_
                            refine z_iload hC (pc := 262) 0 dX14_readSub_262 rfl ?_
                            obtain ⟨b132, h⟩ := h
                            refine y_iast hC (pc := 264) (rAr_k g0 rfl rfl) dX14_readSub_264 b132 (v := v229) (kk := ?_)
                            have W133 := Ws229.sA (p := (1000 * ((rR σ 7) + 1) + 5)) (i := y152_4) (x := v229) hv229
                            refine z_iload hC (pc := 265) 0 dX14_readSub_265 rfl ?_
                            refine z_istore hC (pc := 267) (lv' := [(4, iv v229), (7, iv v229), (0, .ref (κ 0)), (2, iv y152_2), (3, iv y152_3), (5, iv y152_5), (6, iv y152_6)]) dX14_readSub_267 (by decide) rfl ?_
                            refine z_aload_n hC (pc := 269) 2 dX14_readSub_269 rfl rfl ?_
                            refine y_get hC (pc := 270) zf14 rOb_0 7 (v := .ref (κ (rR σ 7))) dX14_readSub_270 zw2475 (rv_g rfl ((qs229.1.R rfl).trans (kJ.R rfl)) g0) (kk := ?_)
                            refine y_getN hC (pc := 273) zf13 (rOb_k g0) 3 (v := .ref (κ (1000 * ((rR σ 7) + 1) + 3))) dX14_readSub_273 zw2316 (rv_c rfl) (kk := ?_)
                            refine z_iload_n hC (pc := 276) 3 dX14_readSub_276 rfl rfl ?_
                            refine z_dup2 hC (pc := 277) dX14_readSub_277 rfl rfl ?_
                            obtain ⟨b134, h⟩ := h
                            refine y_iald hC (pc := 278) (rAr_k g0 rfl rfl) dX14_readSub_278 b134 (v := (rA s229 (1000 * ((rR σ 7) + 1) + 3) y152_2)) ((A_sA_ne (rk_ff g0 g0 (by decide) (by decide) (by decide))).trans rfl) (kk := ?_)
                            have h := h (Ws229.a _ _)
                            refine z_iconst hC (pc := 279) (v := Int32.ofInt 1) dX14_readSub_279 (by decide) ?_
                            refine y_iadd hC (pc := 280) (v := ((rA s229 (1000 * ((rR σ 7) + 1) + 3) y152_2) + 1)) dX14_readSub_280 rfl ?_
                            obtain ⟨b135, h⟩ := h
                            obtain ⟨r136, h⟩ := h
                            refine y_iast hC (pc := 281) (rAr_k g0 rfl rfl) dX14_readSub_281 b135 (v := ((rA s229 (1000 * ((rR σ 7) + 1) + 3) y152_2) + 1)) (kk := ?_)
                            have W137 := W133.sA (p := (1000 * ((rR σ 7) + 1) + 3)) (i := y152_2) (x := ((rA s229 (1000 * ((rR σ 7) + 1) + 3) y152_2) + 1)) r136
                            refine z_aload_n hC (pc := 282) 2 dX14_readSub_282 rfl rfl ?_
                            refine z_iload hC (pc := 283) 5 dX14_readSub_283 rfl ?_
                            refine y_putI hC (pc := 285) zf14 rOb_0 29 (x := y152_5) dX14_readSub_285 zw2496 (Or.inl rfl) rfl rfl (kk := ?_)
                            have W138 := W137.sF (q := 0) (f := 29) (x := y152_5) hy152_5
                            refine z_aload_n hC (pc := 288) 2 dX14_readSub_288 rfl rfl ?_
                            obtain ⟨p139, h⟩ := h
                            refine y_callVv hC (pc := 289) (As := []) (kX14_blanks_b l G κ (sF (sT (sT s229 (rR σ 7) 5 y152_4 v229) (rR σ 7) 3 y152_2 ((rA s229 (1000 * ((rR σ 7) + 1) + 3) y152_2) + 1)) 0 29 y152_5)  W138  p139) dmX14_blanks zf14 rOb_0 dX14_readSub_289 zw3119 rfl rfl (Nat.le_of_ble_eq_true rfl) (Nat.le_of_ble_eq_true rfl) (by omega) (by omega) (Nat.le_of_ble_eq_true rfl) (kk := fun s289 Ws289 qs289 => ?_)
                            have h := h s289 Ws289 (rNMp.keep qs289.1 rfl rfl rfl rfl rfl) (TPRp.keep qs289.1 rfl rfl rfl) (WNp.keep qs289.1 rfl rfl rfl rfl rfl) (PNp.keep qs289.1 rfl rfl rfl rfl rfl) (CCp.keep qs289.1 rfl rfl rfl rfl rfl rfl rfl) (qs289.1.R rfl) (qs289.1.F rfl) (qs289.1.F rfl) (qs289.1.F rfl) (qs289.1.F rfl) (qs289.1.F rfl) (qs289.1.F rfl) (qs289.1.F rfl) (qs289.1.F rfl) (qs289.1.F rfl) (qs289.1.F rfl) (qs289.1.F rfl) (fun i => qs289.1.A (f := 26) (by decide) rfl) (fun i => qs289.1.A (f := 34) (by decide) rfl) (fun i => qs289.1.A (f := 35) (by decide) rfl) (fun i => qs289.1.A (f := 40) (by decide) rfl) (qs289.1.FG g0 rfl) (qs289.1.FG g0 rfl) (qs289.1.FG g0 rfl) (qs289.1.FG g0 rfl) (qs289.1.FG g0 rfl) (fun i => qs289.1.AG (f := 10) g0 (by decide) rfl) (fun i => qs289.1.AG (f := 11) g0 (by decide) rfl) (fun i => qs289.1.AG (f := 31) g0 (by decide) rfl) (fun i => qs289.1.AG (f := 33) g0 (by decide) rfl) (fun i => qs289.1.AG (f := 34) g0 (by decide) rfl) (fun i => qs289.1.AG (f := 35) g0 (by decide) rfl) (fz_keep qs289.1 rfl) (RG.keep (c0 := 0) qs289.1 rfl rfl rfl rfl rfl rfl rfl rfl rfl rfl rfl rfl rfl rfl rfl rfl rfl rfl) qs289.2
                            refine z_aload_n hC (pc := 292) 2 dX14_readSub_292 rfl rfl ?_
                            obtain ⟨p140, h⟩ := h
                            refine y_callVi hC (pc := 293) (As := []) (kX14_here l G κ s289  Ws289  p140) dmX14_here zf14 rOb_0 dX14_readSub_293 zw3099 rfl rfl (Nat.le_of_ble_eq_true rfl) (Nat.le_of_ble_eq_true rfl) (by omega) (by omega) (Nat.le_of_ble_eq_true rfl) (kk := fun v293 s293 hv293 Ws293 qs293 => ?_)
                            obtain ⟨es293, qs293⟩ := qs293
                            have es293 := es293.symm
                            subst es293
                            have h := h v293 hv293 qs293
                            refine z_bipush hC (pc := 296) (v := Int32.ofInt 44) dX14_readSub_296 (by decide) ?_
                            obtain ⟨hT, hF⟩ := h
                            refine y_icmp_ne hC (pc := 298) 311 hv293 (r_lit rfl) dX14_readSub_298 (by decide) (fun c => ?_) (fun c => ?_)
                            · have h := hT c
                              refine z_goto hC (pc := 311) 47 dX14_readSub_311 (by decide) ?_
                              refine z_lvs [2, 3, 4, 0] rfl ?_
                              obtain ⟨hI, hm⟩ := h
                              exact ih47 s289 y152_2 y152_3 v229 Ws289 hy152_2 hy152_3 hv229 (rKeep.tr (rKeep.tr (rKeep.tr (rKeep.tr (rKeep.tr (rKeep.tr rKeep.rf kJ rfl rfl rfl rfl rfl) qs229.1 rfl rfl rfl rfl rfl) (rKeep.sAk (f := 5) g0 (by decide)) rfl rfl rfl rfl rfl) (rKeep.sAk (f := 3) g0 (by decide)) rfl rfl rfl rfl rfl) (rKeep.sF0 (f := 29)) rfl rfl rfl rfl rfl) qs289.1 rfl rfl rfl rfl rfl) hI (by omega)
                            · have h := hF c
                              refine z_aload_n hC (pc := 301) 2 dX14_readSub_301 rfl rfl ?_
                              refine z_dup hC (pc := 302) dX14_readSub_302 rfl ?_
                              refine y_get hC (pc := 303) zf14 rOb_0 29 (v := iv (rF s289 0 29)) dX14_readSub_303 zw2496 (rv_i (Or.inl rfl) rfl) (kk := ?_)
                              have h := h (Ws289.f _ _)
                              refine z_iconst hC (pc := 306) (v := Int32.ofInt 1) dX14_readSub_306 (by decide) ?_
                              refine y_iadd hC (pc := 307) (v := ((rF s289 0 29) + 1)) dX14_readSub_307 rfl ?_
                              obtain ⟨r141, h⟩ := h
                              refine y_putI hC (pc := 308) zf14 rOb_0 29 (x := ((rF s289 0 29) + 1)) dX14_readSub_308 zw2496 (Or.inl rfl) rfl rfl (kk := ?_)
                              have W142 := Ws289.sF (q := 0) (f := 29) (x := ((rF s289 0 29) + 1)) r141
                              refine z_goto hC (pc := 311) 47 dX14_readSub_311 (by decide) ?_
                              refine z_lvs [2, 3, 4, 0] rfl ?_
                              obtain ⟨hI, hm⟩ := h
                              exact ih47 (sF s289 0 29 ((rF s289 0 29) + 1)) y152_2 y152_3 v229 W142 hy152_2 hy152_3 hv229 (rKeep.tr (rKeep.tr (rKeep.tr (rKeep.tr (rKeep.tr (rKeep.tr (rKeep.tr rKeep.rf kJ rfl rfl rfl rfl rfl) qs229.1 rfl rfl rfl rfl rfl) (rKeep.sAk (f := 5) g0 (by decide)) rfl rfl rfl rfl rfl) (rKeep.sAk (f := 3) g0 (by decide)) rfl rfl rfl rfl rfl) (rKeep.sF0 (f := 29)) rfl rfl rfl rfl rfl) qs289.1 rfl rfl rfl rfl rfl) (rKeep.sF0 (f := 29)) rfl rfl rfl rfl rfl) hI (by omega)
                          · have h := hF c
                            refine z_aload_n hC (pc := 239) 1 dX14_readSub_239 rfl rfl ?_
                            refine y_get hC (pc := 240) zf14 rOb_0 7 (v := .ref (κ (rR σ 7))) dX14_readSub_240 zw2475 (rv_g rfl ((qs229.1.R rfl).trans (kJ.R rfl)) g0) (kk := ?_)
                            refine y_getN hC (pc := 243) zf13 (rOb_k g0) 2 (v := .ref (κ (1000 * ((rR σ 7) + 1) + 2))) dX14_readSub_243 zw2314 (rv_c rfl) (kk := ?_)
                            refine z_iload_n hC (pc := 246) 2 dX14_readSub_246 rfl rfl ?_
                            refine z_iload hC (pc := 247) 0 dX14_readSub_247 rfl ?_
                            obtain ⟨b143, h⟩ := h
                            refine y_iast hC (pc := 249) (rAr_k g0 rfl rfl) dX14_readSub_249 b143 (v := v229) (kk := ?_)
                            have W144 := Ws229.sA (p := (1000 * ((rR σ 7) + 1) + 2)) (i := y152_2) (x := v229) hv229
                            refine z_goto hC (pc := 250) 265 dX14_readSub_250 (by decide) ?_
                            refine z_iload hC (pc := 265) 0 dX14_readSub_265 rfl ?_
                            refine z_istore hC (pc := 267) (lv' := [(4, iv v229), (7, iv v229), (0, .ref (κ 0)), (2, iv y152_2), (3, iv y152_3), (5, iv y152_5), (6, iv y152_6)]) dX14_readSub_267 (by decide) rfl ?_
                            refine z_aload_n hC (pc := 269) 2 dX14_readSub_269 rfl rfl ?_
                            refine y_get hC (pc := 270) zf14 rOb_0 7 (v := .ref (κ (rR σ 7))) dX14_readSub_270 zw2475 (rv_g rfl ((qs229.1.R rfl).trans (kJ.R rfl)) g0) (kk := ?_)
                            refine y_getN hC (pc := 273) zf13 (rOb_k g0) 3 (v := .ref (κ (1000 * ((rR σ 7) + 1) + 3))) dX14_readSub_273 zw2316 (rv_c rfl) (kk := ?_)
                            refine z_iload_n hC (pc := 276) 3 dX14_readSub_276 rfl rfl ?_
                            refine z_dup2 hC (pc := 277) dX14_readSub_277 rfl rfl ?_
                            obtain ⟨b145, h⟩ := h
                            refine y_iald hC (pc := 278) (rAr_k g0 rfl rfl) dX14_readSub_278 b145 (v := (rA s229 (1000 * ((rR σ 7) + 1) + 3) y152_2)) ((A_sA_ne (rk_ff g0 g0 (by decide) (by decide) (by decide))).trans rfl) (kk := ?_)
                            have h := h (Ws229.a _ _)
                            refine z_iconst hC (pc := 279) (v := Int32.ofInt 1) dX14_readSub_279 (by decide) ?_
                            refine y_iadd hC (pc := 280) (v := ((rA s229 (1000 * ((rR σ 7) + 1) + 3) y152_2) + 1)) dX14_readSub_280 rfl ?_
                            obtain ⟨b146, h⟩ := h
                            obtain ⟨r147, h⟩ := h
                            refine y_iast hC (pc := 281) (rAr_k g0 rfl rfl) dX14_readSub_281 b146 (v := ((rA s229 (1000 * ((rR σ 7) + 1) + 3) y152_2) + 1)) (kk := ?_)
                            have W148 := W144.sA (p := (1000 * ((rR σ 7) + 1) + 3)) (i := y152_2) (x := ((rA s229 (1000 * ((rR σ 7) + 1) + 3) y152_2) + 1)) r147
                            refine z_aload_n hC (pc := 282) 2 dX14_readSub_282 rfl rfl ?_
                            refine z_iload hC (pc := 283) 5 dX14_readSub_283 rfl ?_
                            refine y_putI hC (pc := 285) zf14 rOb_0 29 (x := y152_5) dX14_readSub_285 zw2496 (Or.inl rfl) rfl rfl (kk := ?_)
                            have W149 := W148.sF (q := 0) (f := 29) (x := y152_5) hy152_5
                            refine z_aload_n hC (pc := 288) 2 dX14_readSub_288 rfl rfl ?_
                            obtain ⟨p150, h⟩ := h
                            refine y_callVv hC (pc := 289) (As := []) (kX14_blanks_b l G κ (sF (sT (sT s229 (rR σ 7) 2 y152_2 v229) (rR σ 7) 3 y152_2 ((rA s229 (1000 * ((rR σ 7) + 1) + 3) y152_2) + 1)) 0 29 y152_5)  W149  p150) dmX14_blanks zf14 rOb_0 dX14_readSub_289 zw3119 rfl rfl (Nat.le_of_ble_eq_true rfl) (Nat.le_of_ble_eq_true rfl) (by omega) (by omega) (Nat.le_of_ble_eq_true rfl) (kk := fun s289 Ws289 qs289 => ?_)
                            have h := h s289 Ws289 (rNMp.keep qs289.1 rfl rfl rfl rfl rfl) (TPRp.keep qs289.1 rfl rfl rfl) (WNp.keep qs289.1 rfl rfl rfl rfl rfl) (PNp.keep qs289.1 rfl rfl rfl rfl rfl) (CCp.keep qs289.1 rfl rfl rfl rfl rfl rfl rfl) (qs289.1.R rfl) (qs289.1.F rfl) (qs289.1.F rfl) (qs289.1.F rfl) (qs289.1.F rfl) (qs289.1.F rfl) (qs289.1.F rfl) (qs289.1.F rfl) (qs289.1.F rfl) (qs289.1.F rfl) (qs289.1.F rfl) (qs289.1.F rfl) (fun i => qs289.1.A (f := 26) (by decide) rfl) (fun i => qs289.1.A (f := 34) (by decide) rfl) (fun i => qs289.1.A (f := 35) (by decide) rfl) (fun i => qs289.1.A (f := 40) (by decide) rfl) (qs289.1.FG g0 rfl) (qs289.1.FG g0 rfl) (qs289.1.FG g0 rfl) (qs289.1.FG g0 rfl) (qs289.1.FG g0 rfl) (fun i => qs289.1.AG (f := 10) g0 (by decide) rfl) (fun i => qs289.1.AG (f := 11) g0 (by decide) rfl) (fun i => qs289.1.AG (f := 31) g0 (by decide) rfl) (fun i => qs289.1.AG (f := 33) g0 (by decide) rfl) (fun i => qs289.1.AG (f := 34) g0 (by decide) rfl) (fun i => qs289.1.AG (f := 35) g0 (by decide) rfl) (fz_keep qs289.1 rfl) (RG.keep (c0 := 0) qs289.1 rfl rfl rfl rfl rfl rfl rfl rfl rfl rfl rfl rfl rfl rfl rfl rfl rfl rfl) qs289.2
                            refine z_aload_n hC (pc := 292) 2 dX14_readSub_292 rfl rfl ?_
                            obtain ⟨p151, h⟩ := h
                            refine y_callVi hC (pc := 293) (As := []) (kX14_here l G κ s289  Ws289  p151) dmX14_here zf14 rOb_0 dX14_readSub_293 zw3099 rfl rfl (Nat.le_of_ble_eq_true rfl) (Nat.le_of_ble_eq_true rfl) (by omega) (by omega) (Nat.le_of_ble_eq_true rfl) (kk := fun v293 s293 hv293 Ws293 qs293 => ?_)
                            obtain ⟨es293, qs293⟩ := qs293
                            have es293 := es293.symm
                            subst es293
                            have h := h v293 hv293 qs293
                            refine z_bipush hC (pc := 296) (v := Int32.ofInt 44) dX14_readSub_296 (by decide) ?_
                            obtain ⟨hT, hF⟩ := h
                            refine y_icmp_ne hC (pc := 298) 311 hv293 (r_lit rfl) dX14_readSub_298 (by decide) (fun c => ?_) (fun c => ?_)
                            · have h := hT c
                              refine z_goto hC (pc := 311) 47 dX14_readSub_311 (by decide) ?_
                              refine z_lvs [2, 3, 4, 0] rfl ?_
                              obtain ⟨hI, hm⟩ := h
                              exact ih47 s289 y152_2 y152_3 v229 Ws289 hy152_2 hy152_3 hv229 (rKeep.tr (rKeep.tr (rKeep.tr (rKeep.tr (rKeep.tr (rKeep.tr rKeep.rf kJ rfl rfl rfl rfl rfl) qs229.1 rfl rfl rfl rfl rfl) (rKeep.sAk (f := 2) g0 (by decide)) rfl rfl rfl rfl rfl) (rKeep.sAk (f := 3) g0 (by decide)) rfl rfl rfl rfl rfl) (rKeep.sF0 (f := 29)) rfl rfl rfl rfl rfl) qs289.1 rfl rfl rfl rfl rfl) hI (by omega)
                            · have h := hF c
                              refine z_aload_n hC (pc := 301) 2 dX14_readSub_301 rfl rfl ?_
                              refine z_dup hC (pc := 302) dX14_readSub_302 rfl ?_
                              refine y_get hC (pc := 303) zf14 rOb_0 29 (v := iv (rF s289 0 29)) dX14_readSub_303 zw2496 (rv_i (Or.inl rfl) rfl) (kk := ?_)
                              have h := h (Ws289.f _ _)
                              refine z_iconst hC (pc := 306) (v := Int32.ofInt 1) dX14_readSub_306 (by decide) ?_
                              refine y_iadd hC (pc := 307) (v := ((rF s289 0 29) + 1)) dX14_readSub_307 rfl ?_
                              obtain ⟨r152, h⟩ := h
                              refine y_putI hC (pc := 308) zf14 rOb_0 29 (x := ((rF s289 0 29) + 1)) dX14_readSub_308 zw2496 (Or.inl rfl) rfl rfl (kk := ?_)
                              have W153 := Ws289.sF (q := 0) (f := 29) (x := ((rF s289 0 29) + 1)) r152
                              refine z_goto hC (pc := 311) 47 dX14_readSub_311 (by decide) ?_
                              refine z_lvs [2, 3, 4, 0] rfl ?_
                              obtain ⟨hI, hm⟩ := h
                              exact ih47 (sF s289 0 29 ((rF s289 0 29) + 1)) y152_2 y152_3 v229 W153 hy152_2 hy152_3 hv229 (rKeep.tr (rKeep.tr (rKeep.tr (rKeep.tr (rKeep.tr (rKeep.tr (rKeep.tr rKeep.rf kJ rfl rfl rfl rfl rfl) qs229.1 rfl rfl rfl rfl rfl) (rKeep.sAk (f := 2) g0 (by decide)) rfl rfl rfl rfl rfl) (rKeep.sAk (f := 3) g0 (by decide)) rfl rfl rfl rfl rfl) (rKeep.sF0 (f := 29)) rfl rfl rfl rfl rfl) qs289.1 rfl rfl rfl rfl rfl) (rKeep.sF0 (f := 29)) rfl rfl rfl rfl rfl) hI (by omega)
                        · have h := hF c
                          refine z_aload_n hC (pc := 210) 0 dX14_readSub_210 rfl rfl ?_
                          refine z_iconst hC (pc := 211) (v := Int32.ofInt 4) dX14_readSub_211 (by decide) ?_
                          refine z_aload_n hC (pc := 212) 0 dX14_readSub_212 rfl rfl ?_
                          obtain ⟨p154, h⟩ := h
                          refine y_callVi hC (pc := 213) (As := []) (kX14_place l G κ s152  Ws152  p154) dmX14_place zf14 rOb_0 dX14_readSub_213 zw3103 rfl rfl (Nat.le_of_ble_eq_true rfl) (Nat.le_of_ble_eq_true rfl) (by omega) (by omega) (Nat.le_of_ble_eq_true rfl) (kk := fun v213 s213 hv213 Ws213 qs213 => ?_)
                          obtain ⟨es213, qs213⟩ := qs213
                          have es213 := es213.symm
                          subst es213
                          have h := h v213 hv213 qs213
                          obtain ⟨p155, h⟩ := h
                          refine y_callVv hC (pc := 216) (As := [iv 4, iv v213]) (kX14_bad l G κ s152 4 v213 Ws152 (r_lit rfl) hv213 p155) dmX14_bad zf14 rOb_0 dX14_readSub_216 zw3000 rfl rfl (Nat.le_of_ble_eq_true rfl) (Nat.le_of_ble_eq_true rfl) (by omega) (by omega) (Nat.le_of_ble_eq_true rfl) (kk := fun s216 Ws216 qs216 => ?_)
                          have h := h s216 Ws216 (rNMp.keep qs216.1 rfl rfl rfl rfl rfl) (TPRp.keep qs216.1 rfl rfl rfl) (WNp.keep qs216.1 rfl rfl rfl rfl rfl) (PNp.keep qs216.1 rfl rfl rfl rfl rfl) (CCp.keep qs216.1 rfl rfl rfl rfl rfl rfl rfl) (qs216.1.R rfl) (qs216.1.F rfl) (qs216.1.F rfl) (qs216.1.F rfl) (qs216.1.F rfl) (qs216.1.F rfl) (qs216.1.F rfl) (qs216.1.F rfl) (qs216.1.F rfl) (qs216.1.F rfl) (qs216.1.F rfl) (qs216.1.F rfl) (fun i => qs216.1.A (f := 26) (by decide) rfl) (fun i => qs216.1.A (f := 34) (by decide) rfl) (fun i => qs216.1.A (f := 35) (by decide) rfl) (fun i => qs216.1.A (f := 40) (by decide) rfl) (qs216.1.FG g0 rfl) (qs216.1.FG g0 rfl) (qs216.1.FG g0 rfl) (qs216.1.FG g0 rfl) (qs216.1.FG g0 rfl) (fun i => qs216.1.AG (f := 10) g0 (by decide) rfl) (fun i => qs216.1.AG (f := 11) g0 (by decide) rfl) (fun i => qs216.1.AG (f := 31) g0 (by decide) rfl) (fun i => qs216.1.AG (f := 33) g0 (by decide) rfl) (fun i => qs216.1.AG (f := 34) g0 (by decide) rfl) (fun i => qs216.1.AG (f := 35) g0 (by decide) rfl) (RG.keep (c0 := 0) qs216.1 rfl rfl rfl rfl rfl rfl rfl rfl rfl rfl rfl rfl rfl rfl rfl rfl rfl rfl) qs216.2
                          refine z_aload_n hC (pc := 219) 0 dX14_readSub_219 rfl rfl ?_
                          refine z_bipush hC (pc := 220) (v := Int32.ofInt 52) dX14_readSub_220 (by decide) ?_
                          refine z_iload hC (pc := 222) 5 dX14_readSub_222 rfl ?_
                          refine z_iconst hC (pc := 224) (v := Int32.ofInt 0) dX14_readSub_224 (by decide) ?_
                          refine z_aload_n hC (pc := 225) 0 dX14_readSub_225 rfl rfl ?_
                          obtain ⟨p156, h⟩ := h
                          refine y_callVi hC (pc := 226) (As := []) (kX14_place l G κ s216  Ws216  p156) dmX14_place zf14 rOb_0 dX14_readSub_226 zw3103 rfl rfl (Nat.le_of_ble_eq_true rfl) (Nat.le_of_ble_eq_true rfl) (by omega) (by omega) (Nat.le_of_ble_eq_true rfl) (kk := fun v226 s226 hv226 Ws226 qs226 => ?_)
                          obtain ⟨es226, qs226⟩ := qs226
                          have es226 := es226.symm
                          subst es226
                          have h := h v226 hv226 qs226
                          obtain ⟨p157, h⟩ := h
                          refine y_callVi hC (pc := 229) (As := [iv 52, iv y152_6, iv 0, iv v226]) (kX14_node_t l G κ s216 52 y152_6 0 v226 gg Ws216 (r_lit rfl) hy152_6 (r_lit rfl) hv226 p157) dmX14_node zf14 rOb_0 dX14_readSub_229 zw3170 rfl rfl (Nat.le_of_ble_eq_true rfl) (Nat.le_of_ble_eq_true rfl) (by omega) (by omega) (Nat.le_of_ble_eq_true rfl) (kk := fun v229 s229 hv229 Ws229 qs229 => ?_)
                          have h := h v229 s229 hv229 Ws229 (rNMp.keep qs229.1 rfl rfl rfl rfl rfl) (TPRp.keep qs229.1 rfl rfl rfl) (WNp.keep qs229.1 rfl rfl rfl rfl rfl) (CCp.keep qs229.1 rfl rfl rfl rfl rfl rfl rfl) (qs229.1.R rfl) (qs229.1.F rfl) (qs229.1.F rfl) (qs229.1.F rfl) (qs229.1.F rfl) (qs229.1.F rfl) (qs229.1.F rfl) (qs229.1.F rfl) (qs229.1.F rfl) (qs229.1.F rfl) (qs229.1.F rfl) (qs229.1.F rfl) (qs229.1.F rfl) (fun i => qs229.1.A (f := 26) (by decide) rfl) (fun i => qs229.1.A (f := 34) (by decide) rfl) (fun i => qs229.1.A (f := 35) (by decide) rfl) (fun i => qs229.1.A (f := 40) (by decide) rfl) (qs229.1.FG g0 rfl) (qs229.1.FG g0 rfl) (qs229.1.FG g0 rfl) (qs229.1.FG g0 rfl) (fun i => qs229.1.AG (f := 10) g0 (by decide) rfl) (fun i => qs229.1.AG (f := 11) g0 (by decide) rfl) (fun i => qs229.1.AG (f := 31) g0 (by decide) rfl) (fun i => qs229.1.AG (f := 33) g0 (by decide) rfl) (fun i => qs229.1.AG (f := 34) g0 (by decide) rfl) (fun i => qs229.1.AG (f := 35) g0 (by decide) rfl) (fz_keep qs229.1 rfl) qs229.2
                          refine z_istore hC (pc := 232) (lv' := [(7, iv v229), (0, .ref (κ 0)), (2, iv y152_2), (3, iv y152_3), (4, iv y152_4), (5, iv y152_5), (6, iv y152_6)]) dX14_readSub_232 (by decide) rfl ?_
                          refine z_iload hC (pc := 234) 4 dX14_readSub_234 rfl ?_
                          obtain ⟨hT, hF⟩ := h
                          refine y_if_ne hC (pc := 236) 253 hy152_4 dX14_readSub_236 (by decide) (fun c => ?_) (fun c => ?_)
                          · have h := hT c
                            refine z_aload_n hC (pc := 253) 1 dX14_readSub_253 rfl rfl ?_
                            refine y_get hC (pc := 254) zf14 rOb_0 7 (v := .ref (κ (rR σ 7))) dX14_readSub_254 zw2475 (rv_g rfl ((qs229.1.R rfl).trans ((qs216.1.R rfl).trans (kJ.R rfl))) g0) (kk := ?_)
                            refine y_getN hC (pc := 257) zf13 (rOb_k g0) 5 (v := .ref (κ (1000 * ((rR σ 7) + 1) + 5))) dX14_readSub_257 zw2320 (rv_c rfl) (kk := ?_)
                            refine z_iload hC (pc := 260) 4 dX14_readSub_260 rfl ?_
                            refine z_iload hC (pc := 262) 0 dX14_readSub_262 rfl ?_
                            obtain ⟨b158, h⟩ := h
                            refine y_iast hC (pc := 264) (rAr_k g0 rfl rfl) dX14_readSub_264 b158 (v := v229) (kk := ?_)
                            have W159 := Ws229.sA (p := (1000 * ((rR σ 7) + 1) + 5)) (i := y152_4) (x := v229) hv229
                            refine z_iload hC (pc := 265) 0 dX14_readSub_265 rfl ?_
                            refine z_istore hC (pc := 267) (lv' := [(4, iv v229), (7, iv v229), (0, .ref (κ 0)), (2, iv y152_2), (3, iv y152_3), (5, iv y152_5), (6, iv y152_6)]) dX14_readSub_267 (by decide) rfl ?_
                            refine z_aload_n hC (pc := 269) 2 dX14_readSub_269 rfl rfl ?_
                            refine y_get hC (pc := 270) zf14 rOb_0 7 (v := .ref (κ (rR σ 7))) dX14_readSub_270 zw2475 (rv_g rfl ((qs229.1.R rfl).trans ((qs216.1.R rfl).trans (kJ.R rfl))) g0) (kk := ?_)
                            refine y_getN hC (pc := 273) zf13 (rOb_k g0) 3 (v := .ref (κ (1000 * ((rR σ 7) + 1) + 3))) dX14_readSub_273 zw2316 (rv_c rfl) (kk := ?_)
                            refine z_iload_n hC (pc := 276) 3 dX14_readSub_276 rfl rfl ?_
                            refine z_dup2 hC (pc := 277) dX14_readSub_277 rfl rfl ?_
                            obtain ⟨b160, h⟩ := h
                            refine y_iald hC (pc := 278) (rAr_k g0 rfl rfl) dX14_readSub_278 b160 (v := (rA s229 (1000 * ((rR σ 7) + 1) + 3) y152_2)) ((A_sA_ne (rk_ff g0 g0 (by decide) (by decide) (by decide))).trans rfl) (kk := ?_)
                            have h := h (Ws229.a _ _)
                            refine z_iconst hC (pc := 279) (v := Int32.ofInt 1) dX14_readSub_279 (by decide) ?_
                            refine y_iadd hC (pc := 280) (v := ((rA s229 (1000 * ((rR σ 7) + 1) + 3) y152_2) + 1)) dX14_readSub_280 rfl ?_
                            obtain ⟨b161, h⟩ := h
                            obtain ⟨r162, h⟩ := h
                            refine y_iast hC (pc := 281) (rAr_k g0 rfl rfl) dX14_readSub_281 b161 (v := ((rA s229 (1000 * ((rR σ 7) + 1) + 3) y152_2) + 1)) (kk := ?_)
                            have W163 := W159.sA (p := (1000 * ((rR σ 7) + 1) + 3)) (i := y152_2) (x := ((rA s229 (1000 * ((rR σ 7) + 1) + 3) y152_2) + 1)) r162
                            refine z_aload_n hC (pc := 282) 2 dX14_readSub_282 rfl rfl ?_
                            refine z_iload hC (pc := 283) 5 dX14_readSub_283 rfl ?_
                            refine y_putI hC (pc := 285) zf14 rOb_0 29 (x := y152_5) dX14_readSub_285 zw2496 (Or.inl rfl) rfl rfl (kk := ?_)
                            have W164 := W163.sF (q := 0) (f := 29) (x := y152_5) hy152_5
                            refine z_aload_n hC (pc := 288) 2 dX14_readSub_288 rfl rfl ?_
                            obtain ⟨p165, h⟩ := h
                            refine y_callVv hC (pc := 289) (As := []) (kX14_blanks_b l G κ (sF (sT (sT s229 (rR σ 7) 5 y152_4 v229) (rR σ 7) 3 y152_2 ((rA s229 (1000 * ((rR σ 7) + 1) + 3) y152_2) + 1)) 0 29 y152_5)  W164  p165) dmX14_blanks zf14 rOb_0 dX14_readSub_289 zw3119 rfl rfl (Nat.le_of_ble_eq_true rfl) (Nat.le_of_ble_eq_true rfl) (by omega) (by omega) (Nat.le_of_ble_eq_true rfl) (kk := fun s289 Ws289 qs289 => ?_)
                            have h := h s289 Ws289 (rNMp.keep qs289.1 rfl rfl rfl rfl rfl) (TPRp.keep qs289.1 rfl rfl rfl) (WNp.keep qs289.1 rfl rfl rfl rfl rfl) (PNp.keep qs289.1 rfl rfl rfl rfl rfl) (CCp.keep qs289.1 rfl rfl rfl rfl rfl rfl rfl) (qs289.1.R rfl) (qs289.1.F rfl) (qs289.1.F rfl) (qs289.1.F rfl) (qs289.1.F rfl) (qs289.1.F rfl) (qs289.1.F rfl) (qs289.1.F rfl) (qs289.1.F rfl) (qs289.1.F rfl) (qs289.1.F rfl) (qs289.1.F rfl) (fun i => qs289.1.A (f := 26) (by decide) rfl) (fun i => qs289.1.A (f := 34) (by decide) rfl) (fun i => qs289.1.A (f := 35) (by decide) rfl) (fun i => qs289.1.A (f := 40) (by decide) rfl) (qs289.1.FG g0 rfl) (qs289.1.FG g0 rfl) (qs289.1.FG g0 rfl) (qs289.1.FG g0 rfl) (qs289.1.FG g0 rfl) (fun i => qs289.1.AG (f := 10) g0 (by decide) rfl) (fun i => qs289.1.AG (f := 11) g0 (by decide) rfl) (fun i => qs289.1.AG (f := 31) g0 (by decide) rfl) (fun i => qs289.1.AG (f := 33) g0 (by decide) rfl) (fun i => qs289.1.AG (f := 34) g0 (by decide) rfl) (fun i => qs289.1.AG (f := 35) g0 (by decide) rfl) (fz_keep qs289.1 rfl) (RG.keep (c0 := 0) qs289.1 rfl rfl rfl rfl rfl rfl rfl rfl rfl rfl rfl rfl rfl rfl rfl rfl rfl rfl) qs289.2
                            refine z_aload_n hC (pc := 292) 2 dX14_readSub_292 rfl rfl ?_
                            obtain ⟨p166, h⟩ := h
                            refine y_callVi hC (pc := 293) (As := []) (kX14_here l G κ s289  Ws289  p166) dmX14_here zf14 rOb_0 dX14_readSub_293 zw3099 rfl rfl (Nat.le_of_ble_eq_true rfl) (Nat.le_of_ble_eq_true rfl) (by omega) (by omega) (Nat.le_of_ble_eq_true rfl) (kk := fun v293 s293 hv293 Ws293 qs293 => ?_)
                            obtain ⟨es293, qs293⟩ := qs293
                            have es293 := es293.symm
                            subst es293
                            have h := h v293 hv293 qs293
                            refine z_bipush hC (pc := 296) (v := Int32.ofInt 44) dX14_readSub_296 (by decide) ?_
                            obtain ⟨hT, hF⟩ := h
                            refine y_icmp_ne hC (pc := 298) 311 hv293 (r_lit rfl) dX14_readSub_298 (by decide) (fun c => ?_) (fun c => ?_)
                            · have h := hT c
                              refine z_goto hC (pc := 311) 47 dX14_readSub_311 (by decide) ?_
                              refine z_lvs [2, 3, 4, 0] rfl ?_
                              obtain ⟨hI, hm⟩ := h
                              exact ih47 s289 y152_2 y152_3 v229 Ws289 hy152_2 hy152_3 hv229 (rKeep.tr (rKeep.tr (rKeep.tr (rKeep.tr (rKeep.tr (rKeep.tr (rKeep.tr rKeep.rf kJ rfl rfl rfl rfl rfl) qs216.1 rfl rfl rfl rfl rfl) qs229.1 rfl rfl rfl rfl rfl) (rKeep.sAk (f := 5) g0 (by decide)) rfl rfl rfl rfl rfl) (rKeep.sAk (f := 3) g0 (by decide)) rfl rfl rfl rfl rfl) (rKeep.sF0 (f := 29)) rfl rfl rfl rfl rfl) qs289.1 rfl rfl rfl rfl rfl) hI (by omega)
                            · have h := hF c
                              refine z_aload_n hC (pc := 301) 2 dX14_readSub_301 rfl rfl ?_
                              refine z_dup hC (pc := 302) dX14_readSub_302 rfl ?_
                              refine y_get hC (pc := 303) zf14 rOb_0 29 (v := iv (rF s289 0 29)) dX14_readSub_303 zw2496 (rv_i (Or.inl rfl) rfl) (kk := ?_)
                              have h := h (Ws289.f _ _)
                              refine z_iconst hC (pc := 306) (v := Int32.ofInt 1) dX14_readSub_306 (by decide) ?_
                              refine y_iadd hC (pc := 307) (v := ((rF s289 0 29) + 1)) dX14_readSub_307 rfl ?_
                              obtain ⟨r167, h⟩ := h
                              refine y_putI hC (pc := 308) zf14 rOb_0 29 (x := ((rF s289 0 29) + 1)) dX14_readSub_308 zw2496 (Or.inl rfl) rfl rfl (kk := ?_)
                              have W168 := Ws289.sF (q := 0) (f := 29) (x := ((rF s289 0 29) + 1)) r167
                              refine z_goto hC (pc := 311) 47 dX14_readSub_311 (by decide) ?_
                              refine z_lvs [2, 3, 4, 0] rfl ?_
                              obtain ⟨hI, hm⟩ := h
                              exact ih47 (sF s289 0 29 ((rF s289 0 29) + 1)) y152_2 y152_3 v229 W168 hy152_2 hy152_3 hv229 (rKeep.tr (rKeep.tr (rKeep.tr (rKeep.tr (rKeep.tr (rKeep.tr (rKeep.tr (rKeep.tr rKeep.rf kJ rfl rfl rfl rfl rfl) qs216.1 rfl rfl rfl rfl rfl) qs229.1 rfl rfl rfl rfl rfl) (rKeep.sAk (f := 5) g0 (by decide)) rfl rfl rfl rfl rfl) (rKeep.sAk (f := 3) g0 (by decide)) rfl rfl rfl rfl rfl) (rKeep.sF0 (f := 29)) rfl rfl rfl rfl rfl) qs289.1 rfl rfl rfl rfl rfl) (rKeep.sF0 (f := 29)) rfl rfl rfl rfl rfl) hI (by omega)
                          · have h := hF c
                            refine z_aload_n hC (pc := 239) 1 dX14_readSub_239 rfl rfl ?_
                            refine y_get hC (pc := 240) zf14 rOb_0 7 (v := .ref (κ (rR σ 7))) dX14_readSub_240 zw2475 (rv_g rfl ((qs229.1.R rfl).trans ((qs216.1.R rfl).trans (kJ.R rfl))) g0) (kk := ?_)
                            refine y_getN hC (pc := 243) zf13 (rOb_k g0) 2 (v := .ref (κ (1000 * ((rR σ 7) + 1) + 2))) dX14_readSub_243 zw2314 (rv_c rfl) (kk := ?_)
                            refine z_iload_n hC (pc := 246) 2 dX14_readSub_246 rfl rfl ?_
                            refine z_iload hC (pc := 247) 0 dX14_readSub_247 rfl ?_
                            obtain ⟨b169, h⟩ := h
                            refine y_iast hC (pc := 249) (rAr_k g0 rfl rfl) dX14_readSub_249 b169 (v := v229) (kk := ?_)
                            have W170 := Ws229.sA (p := (1000 * ((rR σ 7) + 1) + 2)) (i := y152_2) (x := v229) hv229
                            refine z_goto hC (pc := 250) 265 dX14_readSub_250 (by decide) ?_
                            refine z_iload hC (pc := 265) 0 dX14_readSub_265 rfl ?_
                            refine z_istore hC (pc := 267) (lv' := [(4, iv v229), (7, iv v229), (0, .ref (κ 0)), (2, iv y152_2), (3, iv y152_3), (5, iv y152_5), (6, iv y152_6)]) dX14_readSub_267 (by decide) rfl ?_
                            refine z_aload_n hC (pc := 269) 2 dX14_readSub_269 rfl rfl ?_
                            refine y_get hC (pc := 270) zf14 rOb_0 7 (v := .ref (κ (rR σ 7))) dX14_readSub_270 zw2475 (rv_g rfl ((qs229.1.R rfl).trans ((qs216.1.R rfl).trans (kJ.R rfl))) g0) (kk := ?_)
                            refine y_getN hC (pc := 273) zf13 (rOb_k g0) 3 (v := .ref (κ (1000 * ((rR σ 7) + 1) + 3))) dX14_readSub_273 zw2316 (rv_c rfl) (kk := ?_)
                            refine z_iload_n hC (pc := 276) 3 dX14_readSub_276 rfl rfl ?_
                            refine z_dup2 hC (pc := 277) dX14_readSub_277 rfl rfl ?_
                            obtain ⟨b171, h⟩ := h
                            refine y_iald hC (pc := 278) (rAr_k g0 rfl rfl) dX14_readSub_278 b171 (v := (rA s229 (1000 * ((rR σ 7) + 1) + 3) y152_2)) ((A_sA_ne (rk_ff g0 g0 (by decide) (by decide) (by decide))).trans rfl) (kk := ?_)
                            have h := h (Ws229.a _ _)
                            refine z_iconst hC (pc := 279) (v := Int32.ofInt 1) dX14_readSub_279 (by decide) ?_
                            refine y_iadd hC (pc := 280) (v := ((rA s229 (1000 * ((rR σ 7) + 1) + 3) y152_2) + 1)) dX14_readSub_280 rfl ?_
                            obtain ⟨b172, h⟩ := h
                            obtain ⟨r173, h⟩ := h
                            refine y_iast hC (pc := 281) (rAr_k g0 rfl rfl) dX14_readSub_281 b172 (v := ((rA s229 (1000 * ((rR σ 7) + 1) + 3) y152_2) + 1)) (kk := ?_)
                            have W174 := W170.sA (p := (1000 * ((rR σ 7) + 1) + 3)) (i := y152_2) (x := ((rA s229 (1000 * ((rR σ 7) + 1) + 3) y152_2) + 1)) r173
                            refine z_aload_n hC (pc := 282) 2 dX14_readSub_282 rfl rfl ?_
                            refine z_iload hC (pc := 283) 5 dX14_readSub_283 rfl ?_
                            refine y_putI hC (pc := 285) zf14 rOb_0 29 (x := y152_5) dX14_readSub_285 zw2496 (Or.inl rfl) rfl rfl (kk := ?_)
                            have W175 := W174.sF (q := 0) (f := 29) (x := y152_5) hy152_5
                            refine z_aload_n hC (pc := 288) 2 dX14_readSub_288 rfl rfl ?_
                            obtain ⟨p176, h⟩ := h
                            refine y_callVv hC (pc := 289) (As := []) (kX14_blanks_b l G κ (sF (sT (sT s229 (rR σ 7) 2 y152_2 v229) (rR σ 7) 3 y152_2 ((rA s229 (1000 * ((rR σ 7) + 1) + 3) y152_2) + 1)) 0 29 y152_5)  W175  p176) dmX14_blanks zf14 rOb_0 dX14_readSub_289 zw3119 rfl rfl (Nat.le_of_ble_eq_true rfl) (Nat.le_of_ble_eq_true rfl) (by omega) (by omega) (Nat.le_of_ble_eq_true rfl) (kk := fun s289 Ws289 qs289 => ?_)
                            have h := h s289 Ws289 (rNMp.keep qs289.1 rfl rfl rfl rfl rfl) (TPRp.keep qs289.1 rfl rfl rfl) (WNp.keep qs289.1 rfl rfl rfl rfl rfl) (PNp.keep qs289.1 rfl rfl rfl rfl rfl) (CCp.keep qs289.1 rfl rfl rfl rfl rfl rfl rfl) (qs289.1.R rfl) (qs289.1.F rfl) (qs289.1.F rfl) (qs289.1.F rfl) (qs289.1.F rfl) (qs289.1.F rfl) (qs289.1.F rfl) (qs289.1.F rfl) (qs289.1.F rfl) (qs289.1.F rfl) (qs289.1.F rfl) (qs289.1.F rfl) (fun i => qs289.1.A (f := 26) (by decide) rfl) (fun i => qs289.1.A (f := 34) (by decide) rfl) (fun i => qs289.1.A (f := 35) (by decide) rfl) (fun i => qs289.1.A (f := 40) (by decide) rfl) (qs289.1.FG g0 rfl) (qs289.1.FG g0 rfl) (qs289.1.FG g0 rfl) (qs289.1.FG g0 rfl) (qs289.1.FG g0 rfl) (fun i => qs289.1.AG (f := 10) g0 (by decide) rfl) (fun i => qs289.1.AG (f := 11) g0 (by decide) rfl) (fun i => qs289.1.AG (f := 31) g0 (by decide) rfl) (fun i => qs289.1.AG (f := 33) g0 (by decide) rfl) (fun i => qs289.1.AG (f := 34) g0 (by decide) rfl) (fun i => qs289.1.AG (f := 35) g0 (by decide) rfl) (fz_keep qs289.1 rfl) (RG.keep (c0 := 0) qs289.1 rfl rfl rfl rfl rfl rfl rfl rfl rfl rfl rfl rfl rfl rfl rfl rfl rfl rfl) qs289.2
                            refine z_aload_n hC (pc := 292) 2 dX14_readSub_292 rfl rfl ?_
                            obtain ⟨p177, h⟩ := h
                            refine y_callVi hC (pc := 293) (As := []) (kX14_here l G κ s289  Ws289  p177) dmX14_here zf14 rOb_0 dX14_readSub_293 zw3099 rfl rfl (Nat.le_of_ble_eq_true rfl) (Nat.le_of_ble_eq_true rfl) (by omega) (by omega) (Nat.le_of_ble_eq_true rfl) (kk := fun v293 s293 hv293 Ws293 qs293 => ?_)
                            obtain ⟨es293, qs293⟩ := qs293
                            have es293 := es293.symm
                            subst es293
                            have h := h v293 hv293 qs293
                            refine z_bipush hC (pc := 296) (v := Int32.ofInt 44) dX14_readSub_296 (by decide) ?_
                            obtain ⟨hT, hF⟩ := h
                            refine y_icmp_ne hC (pc := 298) 311 hv293 (r_lit rfl) dX14_readSub_298 (by decide) (fun c => ?_) (fun c => ?_)
                            · have h := hT c
                              refine z_goto hC (pc := 311) 47 dX14_readSub_311 (by decide) ?_
                              refine z_lvs [2, 3, 4, 0] rfl ?_
                              obtain ⟨hI, hm⟩ := h
                              exact ih47 s289 y152_2 y152_3 v229 Ws289 hy152_2 hy152_3 hv229 (rKeep.tr (rKeep.tr (rKeep.tr (rKeep.tr (rKeep.tr (rKeep.tr (rKeep.tr rKeep.rf kJ rfl rfl rfl rfl rfl) qs216.1 rfl rfl rfl rfl rfl) qs229.1 rfl rfl rfl rfl rfl) (rKeep.sAk (f := 2) g0 (by decide)) rfl rfl rfl rfl rfl) (rKeep.sAk (f := 3) g0 (by decide)) rfl rfl rfl rfl rfl) (rKeep.sF0 (f := 29)) rfl rfl rfl rfl rfl) qs289.1 rfl rfl rfl rfl rfl) hI (by omega)
                            · have h := hF c
                              refine z_aload_n hC (pc := 301) 2 dX14_readSub_301 rfl rfl ?_
                              refine z_dup hC (pc := 302) dX14_readSub_302 rfl ?_
                              refine y_get hC (pc := 303) zf14 rOb_0 29 (v := iv (rF s289 0 29)) dX14_readSub_303 zw2496 (rv_i (Or.inl rfl) rfl) (kk := ?_)
                              have h := h (Ws289.f _ _)
                              refine z_iconst hC (pc := 306) (v := Int32.ofInt 1) dX14_readSub_306 (by decide) ?_
                              refine y_iadd hC (pc := 307) (v := ((rF s289 0 29) + 1)) dX14_readSub_307 rfl ?_
                              obtain ⟨r178, h⟩ := h
                              refine y_putI hC (pc := 308) zf14 rOb_0 29 (x := ((rF s289 0 29) + 1)) dX14_readSub_308 zw2496 (Or.inl rfl) rfl rfl (kk := ?_)
                              have W179 := Ws289.sF (q := 0) (f := 29) (x := ((rF s289 0 29) + 1)) r178
                              refine z_goto hC (pc := 311) 47 dX14_readSub_311 (by decide) ?_
                              refine z_lvs [2, 3, 4, 0] rfl ?_
                              obtain ⟨hI, hm⟩ := h
                              exact ih47 (sF s289 0 29 ((rF s289 0 29) + 1)) y152_2 y152_3 v229 W179 hy152_2 hy152_3 hv229 (rKeep.tr (rKeep.tr (rKeep.tr (rKeep.tr (rKeep.tr (rKeep.tr (rKeep.tr (rKeep.tr rKeep.rf kJ rfl rfl rfl rfl rfl) qs216.1 rfl rfl rfl rfl rfl) qs229.1 rfl rfl rfl rfl rfl) (rKeep.sAk (f := 2) g0 (by decide)) rfl rfl rfl rfl rfl) (rKeep.sAk (f := 3) g0 (by decide)) rfl rfl rfl rfl rfl) (rKeep.sF0 (f := 29)) rfl rfl rfl rfl rfl) qs289.1 rfl rfl rfl rfl rfl) (rKeep.sF0 (f := 29)) rfl rfl rfl rfl rfl) hI (by omega)
                      · have h := hF c
                        refine z_aload_n hC (pc := 157) 0 dX14_readSub_157 rfl rfl ?_
                        refine y_get hC (pc := 158) zf14 rOb_0 7 (v := .ref (κ (rR σ 7))) dX14_readSub_158 zw2475 (rv_g rfl (kJ.R rfl) g0) (kk := ?_)
                        refine y_getN hC (pc := 161) zf13 (rOb_k g0) 1 (v := .ref (κ (1000 * ((rR σ 7) + 1) + 1))) dX14_readSub_161 zw2312 (rv_c rfl) (kk := ?_)
                        refine z_iload hC (pc := 164) 6 dX14_readSub_164 rfl ?_
                        obtain ⟨b180, h⟩ := h
                        refine y_iald hC (pc := 166) (rAr_k g0 rfl rfl) dX14_readSub_166 b180 (v := (rA s152 (1000 * ((rR σ 7) + 1) + 1) y152_7)) rfl (kk := ?_)
                        have h := h (Ws152.a _ _)
                        refine z_iload hC (pc := 167) 5 dX14_readSub_167 rfl ?_
                        obtain ⟨hT, hF⟩ := h
                        refine y_icmp_ne hC (pc := 169) 181 (Ws152.a _ _) hy152_6 dX14_readSub_169 (by decide) (fun c => ?_) (fun c => ?_)
                        · have h := hT c
                          refine z_aload_n hC (pc := 181) 0 dX14_readSub_181 rfl rfl ?_
                          refine y_get hC (pc := 182) zf14 rOb_0 7 (v := .ref (κ (rR σ 7))) dX14_readSub_182 zw2475 (rv_g rfl (kJ.R rfl) g0) (kk := ?_)
                          refine y_getN hC (pc := 185) zf13 (rOb_k g0) 5 (v := .ref (κ (1000 * ((rR σ 7) + 1) + 5))) dX14_readSub_185 zw2320 (rv_c rfl) (kk := ?_)
                          refine z_iload hC (pc := 188) 6 dX14_readSub_188 rfl ?_
                          obtain ⟨b181, h⟩ := h
                          refine y_iald hC (pc := 190) (rAr_k g0 rfl rfl) dX14_readSub_190 b181 (v := (rA s152 (1000 * ((rR σ 7) + 1) + 5) y152_7)) rfl (kk := ?_)
                          have h := h (Ws152.a _ _)
                          refine z_istore hC (pc := 191) (lv' := [(7, iv (rA s152 (1000 * ((rR σ 7) + 1) + 5) y152_7)), (0, .ref (κ 0)), (2, iv y152_2), (3, iv y152_3), (4, iv y152_4), (5, iv y152_5), (6, iv y152_6)]) dX14_readSub_191 (by decide) rfl ?_
                          refine z_goto hC (pc := 193) 152 dX14_readSub_193 (by decide) ?_
                          refine z_lvs [1, 2, 3, 4, 5, 6, 0] rfl ?_
                          obtain ⟨hI, hm⟩ := h
                          exact ih152 s152 y152_2 y152_3 y152_4 y152_5 y152_6 (rA s152 (1000 * ((rR σ 7) + 1) + 5) y152_7) Ws152 hy152_2 hy152_3 hy152_4 hy152_5 hy152_6 (Ws152.a _ _) (rKeep.tr rKeep.rf kJ rfl rfl rfl rfl rfl) hI (by omega)
                        · have h := hF c
                          refine z_aload_n hC (pc := 172) 0 dX14_readSub_172 rfl rfl ?_
                          refine z_iconst hC (pc := 173) (v := Int32.ofInt 3) dX14_readSub_173 (by decide) ?_
                          refine z_aload_n hC (pc := 174) 0 dX14_readSub_174 rfl rfl ?_
                          obtain ⟨p182, h⟩ := h
                          refine y_callVi hC (pc := 175) (As := []) (kX14_place l G κ s152  Ws152  p182) dmX14_place zf14 rOb_0 dX14_readSub_175 zw3103 rfl rfl (Nat.le_of_ble_eq_true rfl) (Nat.le_of_ble_eq_true rfl) (by omega) (by omega) (Nat.le_of_ble_eq_true rfl) (kk := fun v175 s175 hv175 Ws175 qs175 => ?_)
                          obtain ⟨es175, qs175⟩ := qs175
                          have es175 := es175.symm
                          subst es175
                          have h := h v175 hv175 qs175
                          obtain ⟨p183, h⟩ := h
                          refine y_callVv hC (pc := 178) (As := [iv 3, iv v175]) (kX14_bad l G κ s152 3 v175 Ws152 (r_lit rfl) hv175 p183) dmX14_bad zf14 rOb_0 dX14_readSub_178 zw3000 rfl rfl (Nat.le_of_ble_eq_true rfl) (Nat.le_of_ble_eq_true rfl) (by omega) (by omega) (Nat.le_of_ble_eq_true rfl) (kk := fun s178 Ws178 qs178 => ?_)
                          have h := h s178 Ws178 (rNMp.keep qs178.1 rfl rfl rfl rfl rfl) (TPRp.keep qs178.1 rfl rfl rfl) (WNp.keep qs178.1 rfl rfl rfl rfl rfl) (PNp.keep qs178.1 rfl rfl rfl rfl rfl) (CCp.keep qs178.1 rfl rfl rfl rfl rfl rfl rfl) (qs178.1.R rfl) (qs178.1.F rfl) (qs178.1.F rfl) (qs178.1.F rfl) (qs178.1.F rfl) (qs178.1.F rfl) (qs178.1.F rfl) (qs178.1.F rfl) (qs178.1.F rfl) (qs178.1.F rfl) (qs178.1.F rfl) (qs178.1.F rfl) (fun i => qs178.1.A (f := 26) (by decide) rfl) (fun i => qs178.1.A (f := 34) (by decide) rfl) (fun i => qs178.1.A (f := 35) (by decide) rfl) (fun i => qs178.1.A (f := 40) (by decide) rfl) (qs178.1.FG g0 rfl) (qs178.1.FG g0 rfl) (qs178.1.FG g0 rfl) (qs178.1.FG g0 rfl) (qs178.1.FG g0 rfl) (fun i => qs178.1.AG (f := 10) g0 (by decide) rfl) (fun i => qs178.1.AG (f := 11) g0 (by decide) rfl) (fun i => qs178.1.AG (f := 31) g0 (by decide) rfl) (fun i => qs178.1.AG (f := 33) g0 (by decide) rfl) (fun i => qs178.1.AG (f := 34) g0 (by decide) rfl) (fun i => qs178.1.AG (f := 35) g0 (by decide) rfl) (RG.keep (c0 := 0) qs178.1 rfl rfl rfl rfl rfl rfl rfl rfl rfl rfl rfl rfl rfl rfl rfl rfl rfl rfl) qs178.2
                          refine z_aload_n hC (pc := 181) 0 dX14_readSub_181 rfl rfl ?_
                          refine y_get hC (pc := 182) zf14 rOb_0 7 (v := .ref (κ (rR σ 7))) dX14_readSub_182 zw2475 (rv_g rfl ((qs178.1.R rfl).trans (kJ.R rfl)) g0) (kk := ?_)
                          refine y_getN hC (pc := 185) zf13 (rOb_k g0) 5 (v := .ref (κ (1000 * ((rR σ 7) + 1) + 5))) dX14_readSub_185 zw2320 (rv_c rfl) (kk := ?_)
                          refine z_iload hC (pc := 188) 6 dX14_readSub_188 rfl ?_
                          obtain ⟨b184, h⟩ := h
                          refine y_iald hC (pc := 190) (rAr_k g0 rfl rfl) dX14_readSub_190 b184 (v := (rA s178 (1000 * ((rR σ 7) + 1) + 5) y152_7)) rfl (kk := ?_)
                          have h := h (Ws178.a _ _)
                          refine z_istore hC (pc := 191) (lv' := [(7, iv (rA s178 (1000 * ((rR σ 7) + 1) + 5) y152_7)), (0, .ref (κ 0)), (2, iv y152_2), (3, iv y152_3), (4, iv y152_4), (5, iv y152_5), (6, iv y152_6)]) dX14_readSub_191 (by decide) rfl ?_
                          refine z_goto hC (pc := 193) 152 dX14_readSub_193 (by decide) ?_
                          refine z_lvs [1, 2, 3, 4, 5, 6, 0] rfl ?_
                          obtain ⟨hI, hm⟩ := h
                          exact ih152 s178 y152_2 y152_3 y152_4 y152_5 y152_6 (rA s178 (1000 * ((rR σ 7) + 1) + 5) y152_7) Ws178 hy152_2 hy152_3 hy152_4 hy152_5 hy152_6 (Ws178.a _ _) (rKeep.tr (rKeep.tr rKeep.rf kJ rfl rfl rfl rfl rfl) qs178.1 rfl rfl rfl rfl rfl) hI (by omega)
                  refine z_lvs [3, 4, 5, 6, 2, 1, 0] rfl ?_
                  exact j152 _ s136 y47_2 y47_3 y47_4 v82 v136 (rA s136 (1000 * ((rR σ 7) + 1) + 2) y47_2) Ws136 hy47_2 hy47_3 hy47_4 hv82 hv136 (Ws136.a _ _) (rKeep.tr (rKeep.tr (rKeep.tr (rKeep.tr rKeep.rf kJ rfl rfl rfl rfl rfl) qs67.1 rfl rfl rfl rfl rfl) qs105.1 rfl rfl rfl rfl rfl) qs136.1 rfl rfl rfl rfl rfl) h (Nat.le_refl _)
                · have h := hF c
                  refine z_iconst hC (pc := 115) (v := Int32.ofInt 0) dX14_readSub_115 (by decide) ?_
                  exact y_reti hR dX14_readSub_116 rfl (r_lit rfl) Ws105 (Nat.le_of_ble_eq_true rfl) (Nat.le_of_ble_eq_true rfl) ⟨(rKeep.tr (rKeep.tr (rKeep.tr rKeep.rf kJ rfl rfl rfl rfl rfl) qs67.1 rfl rfl rfl rfl rfl) qs105.1 rfl rfl rfl rfl rfl), h⟩
    refine z_lvs [4, 2, 1, 0] rfl ?_
    exact j47 _ s35 v35 v40 0 Ws35 hv35 hv40 (r_lit rfl) (rKeep.tr (rKeep.tr (rKeep.tr rKeep.rf qs7.1 rfl rfl rfl rfl rfl) (rKeep.sF0 (f := 29)) rfl rfl rfl rfl rfl) qs35.1 rfl rfl rfl rfl rfl) h (Nat.le_refl _)
  · have h := hF c
    refine z_iconst hC (pc := 17) (v := Int32.ofInt 0) dX14_readSub_17 (by decide) ?_
    exact y_reti hR dX14_readSub_18 rfl (r_lit rfl) Ws7 (Nat.le_of_ble_eq_true rfl) (Nat.le_of_ble_eq_true rfl) ⟨(rKeep.tr rKeep.rf qs7.1 rfl rfl rfl rfl rfl), h⟩
theorem kX14_readSub (l : Launch) (G : zG) (κ : Nat → Nat) (n : Nat) (ih : Q_rd l G κ n) (σ : rS) (gg : Nat) (g : Nat → Int → Int) (hwf : rWF σ) (hp : pre_X14_readSub σ gg g) (hr : rk_X14_readSub σ gg g ≤ n + 1) : rMi l G κ yX14_readSub cX14_readSub 8 .int (n + 1 + 100) ((n + 1) * 40 + 3600) [.ref (κ 0)] σ (fun x s => rKeep 0x6c0a3001c00 0x4100001280 0x13c00000000 0x3ee0000d7f 0 σ s ∧ post_X14_readSub σ gg g x s) := wX14_readSub l G κ n ih σ gg g hwf (post_X14_readSub σ gg g) (vX14_readSub n σ gg g hwf hp hr) (vX14_readSub_152 n σ gg g hwf hp hr) (vX14_readSub_152m n σ gg g hwf hp hr) (vX14_readSub_47 n σ gg g hwf hp hr) (vX14_readSub_47m n σ gg g hwf hp hr)
