theorem zw30 : Cond.classLink "TemplateHouseLaw" 8 "TemplateHouse" ∈ zT := zsub1 30 (by decide +kernel) (by decide +kernel)
theorem zw31 : Cond.instantiable "TemplateHouse" 19 ∈ zT := zsub1 31 (by decide +kernel) (by decide +kernel)
theorem zw32 : Cond.methodLink "TemplateHouseLaw" 25 ⟨"TemplateHouse", "<init>", "()V"⟩ ∈ zT := zsub1 32 (by decide +kernel) (by decide +kernel)
theorem zw2293 : Cond.classLink "TemplateHouseLaw" 26 "TemplateHouseModel" ∈ zT := zsub10 133 (by decide +kernel) (by decide +kernel)
theorem zw2294 : Cond.instantiable "TemplateHouseModel" 139 ∈ zT := zsub10 134 (by decide +kernel) (by decide +kernel)
theorem zw2295 : Cond.methodLink "TemplateHouseLaw" 28 ⟨"TemplateHouseModel", "<init>", "()V"⟩ ∈ zT := zsub10 135 (by decide +kernel) (by decide +kernel)
theorem dL_law_40 : decode cL_law 40 = .ok (.tableswitch 867 0 23 #[112, 183, 208, 233, 289, 314, 355, 412, 425, 438, 451, 464, 501, 538, 587, 612, 625, 650, 674, 730, 743, 768, 805, 842], 112) := by decide +kernel
theorem dL_law_33 : decode cL_law 33 = .ok (.aload_n 0, 1) := by decide +kernel
theorem dL_law_34 : decode cL_law 34 = .ok (.iload 4, 2) := by decide +kernel
theorem dL_law_36 : decode cL_law 36 = .ok (.iaload, 1) := by decide +kernel
theorem dL_law_37 : decode cL_law 37 = .ok (.bipush 31, 2) := by decide +kernel
theorem dL_law_39 : decode cL_law 39 = .ok (.iand, 1) := by decide +kernel
theorem dL_law_0 : decode cL_law 0 = .ok (.new 8, 3) := by decide +kernel
theorem dL_law_3 : decode cL_law 3 = .ok (.dup, 1) := by decide +kernel
theorem dL_law_4 : decode cL_law 4 = .ok (.invokespecial 25, 3) := by decide +kernel
theorem dL_law_7 : decode cL_law 7 = .ok (.astore_n 1, 1) := by decide +kernel
theorem dL_law_8 : decode cL_law 8 = .ok (.new 26, 3) := by decide +kernel
theorem dL_law_11 : decode cL_law 11 = .ok (.dup, 1) := by decide +kernel
theorem dL_law_12 : decode cL_law 12 = .ok (.invokespecial 28, 3) := by decide +kernel
theorem dL_law_15 : decode cL_law 15 = .ok (.astore_n 2, 1) := by decide +kernel
theorem dL_law_16 : decode cL_law 16 = .ok (.iconst 1, 1) := by decide +kernel
theorem dL_law_17 : decode cL_law 17 = .ok (.newarray .long, 2) := by decide +kernel
theorem dL_law_19 : decode cL_law 19 = .ok (.astore_n 3, 1) := by decide +kernel
theorem dL_law_20 : decode cL_law 20 = .ok (.iconst 0, 1) := by decide +kernel
theorem dL_law_21 : decode cL_law 21 = .ok (.istore 4, 2) := by decide +kernel
theorem zd12 : ∀ j, j < 19 → defaultValue (tyX12 j) = vp_V [.null, .null, .int 0, .null, .null, .null, .null, .null, .null, .null, .null, .null, .int 0, .int 0, .int 0, .int 0, .int 0, .int 0, .int 0] j := zdef rfl
theorem zd14 : ∀ j, j < 139 → defaultValue (tyX14 j) = vp_V [.int 0, .null, .null, .int 0, .null, .null, .null, .null, .null, .null, .int 0, .int 0, .int 0, .int 0, .int 0, .null, .int 0, .int 0, .int 0, .int 0, .null, .int 0, .int 0, .int 0, .int 0, .int 0, .null, .null, .int 0, .int 0, .int 0, .int 0, .int 0, .int 0, .null, .null, .null, .null, .int 0, .int 0, .null, .int 0, .int 0, .int 0, .int 0, .int 0, .null, .null, .null, .null, .null, .null, .null, .null, .null, .null, .null, .null, .null, .null, .int 0, .null, .null, .null, .null, .int 0, .int 0, .int 0, .int 0, .null, .int 0, .int 0, .int 0, .int 0, .int 0, .null, .null, .null, .null, .null, .int 0, .int 0, .int 0, .int 0, .null, .null, .null, .null, .int 0, .null, .null, .null, .int 0, .null, .int 0, .null, .int 0, .int 0, .int 0, .int 0, .int 0, .int 0, .null, .int 0, .int 0, .null, .null, .null, .null, .null, .null, .null, .int 0, .int 0, .null, .null, .null, .null, .int 0, .int 0, .null, .null, .int 0, .int 0, .null, .null, .null, .null, .null, .null, .null, .null, .null, .null, .null, .int 0, .null, .int 0, .null] j := zdef rfl
theorem law_sw {X : zX} {l : Launch} {G : zG} (hC : zC X l G yL_law cL_law 7 2048 84000 462046 7716100) {Wd : va_W} {lv : List (Nat × Value)} {k n j : Nat} (hj : j < 32) (hd : zS X G 7 Wd lv k n 907 []) (h0 : zS X G 7 Wd lv k n 152 []) (h1 : zS X G 7 Wd lv k n 223 []) (h2 : zS X G 7 Wd lv k n 248 []) (h3 : zS X G 7 Wd lv k n 273 []) (h4 : zS X G 7 Wd lv k n 329 []) (h5 : zS X G 7 Wd lv k n 354 []) (h6 : zS X G 7 Wd lv k n 395 []) (h7 : zS X G 7 Wd lv k n 452 []) (h8 : zS X G 7 Wd lv k n 465 []) (h9 : zS X G 7 Wd lv k n 478 []) (h10 : zS X G 7 Wd lv k n 491 []) (h11 : zS X G 7 Wd lv k n 504 []) (h12 : zS X G 7 Wd lv k n 541 []) (h13 : zS X G 7 Wd lv k n 578 []) (h14 : zS X G 7 Wd lv k n 627 []) (h15 : zS X G 7 Wd lv k n 652 []) (h16 : zS X G 7 Wd lv k n 665 []) (h17 : zS X G 7 Wd lv k n 690 []) (h18 : zS X G 7 Wd lv k n 714 []) (h19 : zS X G 7 Wd lv k n 770 []) (h20 : zS X G 7 Wd lv k n 783 []) (h21 : zS X G 7 Wd lv k n 808 []) (h22 : zS X G 7 Wd lv k n 845 []) (h23 : zS X G 7 Wd lv k n 882 []) : zS X G 7 Wd lv k n 40 [.int (nI j)] := by
  match j, hj with
  | 0, _ => exact z_tableIn hC (pc := 40) (x := nI 0) 152 dL_law_40 (by decide) (by decide) rfl (by decide) h0
  | 1, _ => exact z_tableIn hC (pc := 40) (x := nI 1) 223 dL_law_40 (by decide) (by decide) rfl (by decide) h1
  | 2, _ => exact z_tableIn hC (pc := 40) (x := nI 2) 248 dL_law_40 (by decide) (by decide) rfl (by decide) h2
  | 3, _ => exact z_tableIn hC (pc := 40) (x := nI 3) 273 dL_law_40 (by decide) (by decide) rfl (by decide) h3
  | 4, _ => exact z_tableIn hC (pc := 40) (x := nI 4) 329 dL_law_40 (by decide) (by decide) rfl (by decide) h4
  | 5, _ => exact z_tableIn hC (pc := 40) (x := nI 5) 354 dL_law_40 (by decide) (by decide) rfl (by decide) h5
  | 6, _ => exact z_tableIn hC (pc := 40) (x := nI 6) 395 dL_law_40 (by decide) (by decide) rfl (by decide) h6
  | 7, _ => exact z_tableIn hC (pc := 40) (x := nI 7) 452 dL_law_40 (by decide) (by decide) rfl (by decide) h7
  | 8, _ => exact z_tableIn hC (pc := 40) (x := nI 8) 465 dL_law_40 (by decide) (by decide) rfl (by decide) h8
  | 9, _ => exact z_tableIn hC (pc := 40) (x := nI 9) 478 dL_law_40 (by decide) (by decide) rfl (by decide) h9
  | 10, _ => exact z_tableIn hC (pc := 40) (x := nI 10) 491 dL_law_40 (by decide) (by decide) rfl (by decide) h10
  | 11, _ => exact z_tableIn hC (pc := 40) (x := nI 11) 504 dL_law_40 (by decide) (by decide) rfl (by decide) h11
  | 12, _ => exact z_tableIn hC (pc := 40) (x := nI 12) 541 dL_law_40 (by decide) (by decide) rfl (by decide) h12
  | 13, _ => exact z_tableIn hC (pc := 40) (x := nI 13) 578 dL_law_40 (by decide) (by decide) rfl (by decide) h13
  | 14, _ => exact z_tableIn hC (pc := 40) (x := nI 14) 627 dL_law_40 (by decide) (by decide) rfl (by decide) h14
  | 15, _ => exact z_tableIn hC (pc := 40) (x := nI 15) 652 dL_law_40 (by decide) (by decide) rfl (by decide) h15
  | 16, _ => exact z_tableIn hC (pc := 40) (x := nI 16) 665 dL_law_40 (by decide) (by decide) rfl (by decide) h16
  | 17, _ => exact z_tableIn hC (pc := 40) (x := nI 17) 690 dL_law_40 (by decide) (by decide) rfl (by decide) h17
  | 18, _ => exact z_tableIn hC (pc := 40) (x := nI 18) 714 dL_law_40 (by decide) (by decide) rfl (by decide) h18
  | 19, _ => exact z_tableIn hC (pc := 40) (x := nI 19) 770 dL_law_40 (by decide) (by decide) rfl (by decide) h19
  | 20, _ => exact z_tableIn hC (pc := 40) (x := nI 20) 783 dL_law_40 (by decide) (by decide) rfl (by decide) h20
  | 21, _ => exact z_tableIn hC (pc := 40) (x := nI 21) 808 dL_law_40 (by decide) (by decide) rfl (by decide) h21
  | 22, _ => exact z_tableIn hC (pc := 40) (x := nI 22) 845 dL_law_40 (by decide) (by decide) rfl (by decide) h22
  | 23, _ => exact z_tableIn hC (pc := 40) (x := nI 23) 882 dL_law_40 (by decide) (by decide) rfl (by decide) h23
  | j + 24, h => exact z_tableOut hC (pc := 40) (x := nI (j + 24)) 907 dL_law_40 (Or.inr (by rw [nI_toInt (by omega)]; omega)) (by decide) hd
