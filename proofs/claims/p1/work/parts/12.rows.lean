set_option maxRecDepth 100000 in
theorem kX10_init_6 (l : Launch) (G : zG) (h0 : Nat) (g1 : Nat) (g2 : Nat) : zMv l G yX10_init cX10_init 3 1 12 0 0 [.ref h0, .ref g1, .ref g2] [(h0, .inr (10, [.null, .null, .int 0, .int 0, .int 0, .int 0, .int 0, .int 0, .int 0, .int 0, .int 0, .int 0, .int 0, .int 0, .int 0, .int 0, .int 0]))] (fun w => w = [(h0, .inr (10, [.ref g1, .ref g2, .int 60, .int 62, .int 2, .int (-1), .int (-1), .int 0, .int 0, .int 0, .int 0, .int 1, .int 0, .int 0, .int 0, .int 0, .int (-1)]))]) := by
  refine zMv.intro (by decide) (Nat.le_of_ble_eq_true rfl) (fun X hC hR => ?_)
  refine z_aload_n hC (pc := 0) 0 dX10_init_0 rfl rfl ?_
  refine z_objInit hC (pc := 1) dX10_init_1 zw329 (Nat.le_of_ble_eq_true rfl) (Nat.le_of_ble_eq_true rfl) ?_
  refine z_aload_n hC (pc := 4) 0 dX10_init_4 rfl rfl ?_
  refine z_bipush hC (pc := 5) (v := 60) dX10_init_5 (by decide) ?_
  refine z_put hC (pc := 7) zf10 0 2 [(h0, .inr (10, [.null, .null, .int 60, .int 0, .int 0, .int 0, .int 0, .int 0, .int 0, .int 0, .int 0, .int 0, .int 0, .int 0, .int 0, .int 0, .int 0]))] dX10_init_7 zw332 rfl rfl rfl rfl rfl (kk := ?_)
  refine z_aload_n hC (pc := 10) 0 dX10_init_10 rfl rfl ?_
  refine z_bipush hC (pc := 11) (v := 62) dX10_init_11 (by decide) ?_
  refine z_put hC (pc := 13) zf10 0 3 [(h0, .inr (10, [.null, .null, .int 60, .int 62, .int 0, .int 0, .int 0, .int 0, .int 0, .int 0, .int 0, .int 0, .int 0, .int 0, .int 0, .int 0, .int 0]))] dX10_init_13 zw334 rfl rfl rfl rfl rfl (kk := ?_)
  refine z_aload_n hC (pc := 16) 0 dX10_init_16 rfl rfl ?_
  refine z_iconst hC (pc := 17) (v := 2) dX10_init_17 (by decide) ?_
  refine z_put hC (pc := 18) zf10 0 4 [(h0, .inr (10, [.null, .null, .int 60, .int 62, .int 2, .int 0, .int 0, .int 0, .int 0, .int 0, .int 0, .int 0, .int 0, .int 0, .int 0, .int 0, .int 0]))] dX10_init_18 zw336 rfl rfl rfl rfl rfl (kk := ?_)
  refine z_aload_n hC (pc := 21) 0 dX10_init_21 rfl rfl ?_
  refine z_iconst hC (pc := 22) (v := (-1)) dX10_init_22 (by decide) ?_
  refine z_put hC (pc := 23) zf10 0 5 [(h0, .inr (10, [.null, .null, .int 60, .int 62, .int 2, .int (-1), .int 0, .int 0, .int 0, .int 0, .int 0, .int 0, .int 0, .int 0, .int 0, .int 0, .int 0]))] dX10_init_23 zw337 rfl rfl rfl rfl rfl (kk := ?_)
  refine z_aload_n hC (pc := 26) 0 dX10_init_26 rfl rfl ?_
  refine z_iconst hC (pc := 27) (v := (-1)) dX10_init_27 (by decide) ?_
  refine z_put hC (pc := 28) zf10 0 6 [(h0, .inr (10, [.null, .null, .int 60, .int 62, .int 2, .int (-1), .int (-1), .int 0, .int 0, .int 0, .int 0, .int 0, .int 0, .int 0, .int 0, .int 0, .int 0]))] dX10_init_28 zw338 rfl rfl rfl rfl rfl (kk := ?_)
  refine z_aload_n hC (pc := 31) 0 dX10_init_31 rfl rfl ?_
  refine z_iconst hC (pc := 32) (v := 0) dX10_init_32 (by decide) ?_
  refine z_put hC (pc := 33) zf10 0 7 [(h0, .inr (10, [.null, .null, .int 60, .int 62, .int 2, .int (-1), .int (-1), .int 0, .int 0, .int 0, .int 0, .int 0, .int 0, .int 0, .int 0, .int 0, .int 0]))] dX10_init_33 zw339 rfl rfl rfl rfl rfl (kk := ?_)
  refine z_aload_n hC (pc := 36) 0 dX10_init_36 rfl rfl ?_
  refine z_iconst hC (pc := 37) (v := 0) dX10_init_37 (by decide) ?_
  refine z_put hC (pc := 38) zf10 0 8 [(h0, .inr (10, [.null, .null, .int 60, .int 62, .int 2, .int (-1), .int (-1), .int 0, .int 0, .int 0, .int 0, .int 0, .int 0, .int 0, .int 0, .int 0, .int 0]))] dX10_init_38 zw340 rfl rfl rfl rfl rfl (kk := ?_)
  refine z_aload_n hC (pc := 41) 0 dX10_init_41 rfl rfl ?_
  refine z_iconst hC (pc := 42) (v := 0) dX10_init_42 (by decide) ?_
  refine z_put hC (pc := 43) zf10 0 9 [(h0, .inr (10, [.null, .null, .int 60, .int 62, .int 2, .int (-1), .int (-1), .int 0, .int 0, .int 0, .int 0, .int 0, .int 0, .int 0, .int 0, .int 0, .int 0]))] dX10_init_43 zw341 rfl rfl rfl rfl rfl (kk := ?_)
  refine z_aload_n hC (pc := 46) 0 dX10_init_46 rfl rfl ?_
  refine z_iconst hC (pc := 47) (v := 0) dX10_init_47 (by decide) ?_
  refine z_put hC (pc := 48) zf10 0 10 [(h0, .inr (10, [.null, .null, .int 60, .int 62, .int 2, .int (-1), .int (-1), .int 0, .int 0, .int 0, .int 0, .int 0, .int 0, .int 0, .int 0, .int 0, .int 0]))] dX10_init_48 zw342 rfl rfl rfl rfl rfl (kk := ?_)
  refine z_aload_n hC (pc := 51) 0 dX10_init_51 rfl rfl ?_
  refine z_iconst hC (pc := 52) (v := 1) dX10_init_52 (by decide) ?_
  refine z_put hC (pc := 53) zf10 0 11 [(h0, .inr (10, [.null, .null, .int 60, .int 62, .int 2, .int (-1), .int (-1), .int 0, .int 0, .int 0, .int 0, .int 1, .int 0, .int 0, .int 0, .int 0, .int 0]))] dX10_init_53 zw343 rfl rfl rfl rfl rfl (kk := ?_)
  refine z_aload_n hC (pc := 56) 0 dX10_init_56 rfl rfl ?_
  refine z_iconst hC (pc := 57) (v := 0) dX10_init_57 (by decide) ?_
  refine z_put hC (pc := 58) zf10 0 12 [(h0, .inr (10, [.null, .null, .int 60, .int 62, .int 2, .int (-1), .int (-1), .int 0, .int 0, .int 0, .int 0, .int 1, .int 0, .int 0, .int 0, .int 0, .int 0]))] dX10_init_58 zw344 rfl rfl rfl rfl rfl (kk := ?_)
  refine z_aload_n hC (pc := 61) 0 dX10_init_61 rfl rfl ?_
  refine z_iconst hC (pc := 62) (v := 0) dX10_init_62 (by decide) ?_
  refine z_put hC (pc := 63) zf10 0 13 [(h0, .inr (10, [.null, .null, .int 60, .int 62, .int 2, .int (-1), .int (-1), .int 0, .int 0, .int 0, .int 0, .int 1, .int 0, .int 0, .int 0, .int 0, .int 0]))] dX10_init_63 zw345 rfl rfl rfl rfl rfl (kk := ?_)
  refine z_aload_n hC (pc := 66) 0 dX10_init_66 rfl rfl ?_
  refine z_iconst hC (pc := 67) (v := 0) dX10_init_67 (by decide) ?_
  refine z_put hC (pc := 68) zf10 0 14 [(h0, .inr (10, [.null, .null, .int 60, .int 62, .int 2, .int (-1), .int (-1), .int 0, .int 0, .int 0, .int 0, .int 1, .int 0, .int 0, .int 0, .int 0, .int 0]))] dX10_init_68 zw346 rfl rfl rfl rfl rfl (kk := ?_)
  refine z_aload_n hC (pc := 71) 0 dX10_init_71 rfl rfl ?_
  refine z_iconst hC (pc := 72) (v := 0) dX10_init_72 (by decide) ?_
  refine z_put hC (pc := 73) zf10 0 15 [(h0, .inr (10, [.null, .null, .int 60, .int 62, .int 2, .int (-1), .int (-1), .int 0, .int 0, .int 0, .int 0, .int 1, .int 0, .int 0, .int 0, .int 0, .int 0]))] dX10_init_73 zw347 rfl rfl rfl rfl rfl (kk := ?_)
  refine z_aload_n hC (pc := 76) 0 dX10_init_76 rfl rfl ?_
  refine z_iconst hC (pc := 77) (v := (-1)) dX10_init_77 (by decide) ?_
  refine z_put hC (pc := 78) zf10 0 16 [(h0, .inr (10, [.null, .null, .int 60, .int 62, .int 2, .int (-1), .int (-1), .int 0, .int 0, .int 0, .int 0, .int 1, .int 0, .int 0, .int 0, .int 0, .int (-1)]))] dX10_init_78 zw348 rfl rfl rfl rfl rfl (kk := ?_)
  refine z_aload_n hC (pc := 81) 0 dX10_init_81 rfl rfl ?_
  refine z_aload_n hC (pc := 82) 1 dX10_init_82 rfl rfl ?_
  refine z_putF hC (pc := 83) zf10 0 0 [(h0, .inr (10, [.ref g1, .null, .int 60, .int 62, .int 2, .int (-1), .int (-1), .int 0, .int 0, .int 0, .int 0, .int 1, .int 0, .int 0, .int 0, .int 0, .int (-1)]))] dX10_init_83 zw330 rfl rfl rfl rfl rfl (kk := ?_)
  refine z_aload_n hC (pc := 86) 0 dX10_init_86 rfl rfl ?_
  refine z_aload_n hC (pc := 87) 2 dX10_init_87 rfl rfl ?_
  refine z_put hC (pc := 88) zf10 0 1 [(h0, .inr (10, [.ref g1, .ref g2, .int 60, .int 62, .int 2, .int (-1), .int (-1), .int 0, .int 0, .int 0, .int 0, .int 1, .int 0, .int 0, .int 0, .int 0, .int (-1)]))] dX10_init_88 zw331 rfl rfl rfl rfl rfl (kk := ?_)
  exact hR _ _ _ _ _ dX10_init_91 (Nat.le_of_ble_eq_true rfl) (Nat.le_of_ble_eq_true rfl) rfl
set_option maxRecDepth 100000 in
theorem kX1_init_7 (l : Launch) (G : zG) (h0 : Nat) (g1 : Nat) (g2 : Nat) (g3 : Nat) (g4 : Nat) : zMv l G yX1_init cX1_init 5 2 34 7 2861 [.ref h0, .ref g1, .ref g2, .ref g3, .ref g4] [(h0, .inr (1, [.null, .null, .null, .null, .null, .null, .null, .int 0, .null, .null, .int 0, .int 0, .null, .null, .int 0, .int 0, .int 0, .int 0, .int 0]))] (fun w => ∃ (q1 : Nat) (q2 : Nat) (q3 : Nat) (q4 : Nat) (q5 : Nat) (q6 : Nat) (q7 : Nat), w = [(h0, .inr (1, [.ref g1, .ref g2, .ref g3, .ref g4, .ref q7, .ref q1, .ref q2, .int 0, .ref q3, .ref q4, .int 0, .int 1476395008, .ref q5, .ref q6, .int 0, .int 0, .int 0, .int (-1), .int 0])), (q1, .inl (G.2.1 0, 13, .inl (fun _ => 0))), (q2, .inl (G.2.1 0, 13, .inl (fun _ => 0))), (q3, .inl (G.2.1 0, 1400, .inl (fun _ => 0))), (q4, .inl (G.2.1 0, 1400, .inl (fun _ => 0))), (q5, .inl (G.2.1 0, 9, .inl (fun _ => 0))), (q6, .inl (G.2.1 0, 9, .inl (fun _ => 0))), (q7, .inr (10, [.ref g3, .ref g4, .int 60, .int 62, .int 2, .int (-1), .int (-1), .int 0, .int 0, .int 0, .int 0, .int 1, .int 0, .int 0, .int 0, .int 0, .int (-1)]))]) := by
  refine zMv.intro (by decide) (Nat.le_of_ble_eq_true rfl) (fun X hC hR => ?_)
  refine z_aload_n hC (pc := 0) 0 dX1_init_0 rfl rfl ?_
  refine z_objInit hC (pc := 1) dX1_init_1 zw322 (Nat.le_of_ble_eq_true rfl) (Nat.le_of_ble_eq_true rfl) ?_
  refine z_aload_n hC (pc := 4) 0 dX1_init_4 rfl rfl ?_
  refine z_bipush hC (pc := 5) (v := 13) dX1_init_5 (by decide) ?_
  refine z_newa0 hC (pc := 7) (N := 13) (k := 0) (n := 0) dX1_init_7 (by decide) rfl (Nat.le_of_ble_eq_true rfl) (Nat.le_of_ble_eq_true rfl) (Nat.le_of_ble_eq_true rfl) (fun q1 => ?_)
  refine z_putF hC (pc := 9) zf1 0 5 [(h0, .inr (1, [.null, .null, .null, .null, .null, .ref q1, .null, .int 0, .null, .null, .int 0, .int 0, .null, .null, .int 0, .int 0, .int 0, .int 0, .int 0])), (q1, .inl (G.2.1 0, 13, .inl (fun _ => 0)))] dX1_init_9 zw389 rfl rfl rfl rfl rfl (kk := ?_)
  refine z_aload_n hC (pc := 12) 0 dX1_init_12 rfl rfl ?_
  refine z_bipush hC (pc := 13) (v := 13) dX1_init_13 (by decide) ?_
  refine z_newa0 hC (pc := 15) (N := 13) (k := 1) (n := 13) dX1_init_15 (by decide) rfl (Nat.le_of_ble_eq_true rfl) (Nat.le_of_ble_eq_true rfl) (Nat.le_of_ble_eq_true rfl) (fun q2 => ?_)
  refine z_putF hC (pc := 17) zf1 0 6 [(h0, .inr (1, [.null, .null, .null, .null, .null, .ref q1, .ref q2, .int 0, .null, .null, .int 0, .int 0, .null, .null, .int 0, .int 0, .int 0, .int 0, .int 0])), (q1, .inl (G.2.1 0, 13, .inl (fun _ => 0))), (q2, .inl (G.2.1 0, 13, .inl (fun _ => 0)))] dX1_init_17 zw390 rfl rfl rfl rfl rfl (kk := ?_)
  refine z_aload_n hC (pc := 20) 0 dX1_init_20 rfl rfl ?_
  refine z_iconst hC (pc := 21) (v := 0) dX1_init_21 (by decide) ?_
  refine z_put hC (pc := 22) zf1 0 7 [(h0, .inr (1, [.null, .null, .null, .null, .null, .ref q1, .ref q2, .int 0, .null, .null, .int 0, .int 0, .null, .null, .int 0, .int 0, .int 0, .int 0, .int 0])), (q1, .inl (G.2.1 0, 13, .inl (fun _ => 0))), (q2, .inl (G.2.1 0, 13, .inl (fun _ => 0)))] dX1_init_22 zw391 rfl rfl rfl rfl rfl (kk := ?_)
  refine z_aload_n hC (pc := 25) 0 dX1_init_25 rfl rfl ?_
  refine z_sipush hC (pc := 26) (v := 1400) dX1_init_26 (by decide) ?_
  refine z_newa0 hC (pc := 29) (N := 1400) (k := 2) (n := 26) dX1_init_29 (by decide) rfl (Nat.le_of_ble_eq_true rfl) (Nat.le_of_ble_eq_true rfl) (Nat.le_of_ble_eq_true rfl) (fun q3 => ?_)
  refine z_putF hC (pc := 31) zf1 0 8 [(h0, .inr (1, [.null, .null, .null, .null, .null, .ref q1, .ref q2, .int 0, .ref q3, .null, .int 0, .int 0, .null, .null, .int 0, .int 0, .int 0, .int 0, .int 0])), (q1, .inl (G.2.1 0, 13, .inl (fun _ => 0))), (q2, .inl (G.2.1 0, 13, .inl (fun _ => 0))), (q3, .inl (G.2.1 0, 1400, .inl (fun _ => 0)))] dX1_init_31 zw392 rfl rfl rfl rfl rfl (kk := ?_)
  refine z_aload_n hC (pc := 34) 0 dX1_init_34 rfl rfl ?_
  refine z_sipush hC (pc := 35) (v := 1400) dX1_init_35 (by decide) ?_
  refine z_newa0 hC (pc := 38) (N := 1400) (k := 3) (n := 1426) dX1_init_38 (by decide) rfl (Nat.le_of_ble_eq_true rfl) (Nat.le_of_ble_eq_true rfl) (Nat.le_of_ble_eq_true rfl) (fun q4 => ?_)
  refine z_putF hC (pc := 40) zf1 0 9 [(h0, .inr (1, [.null, .null, .null, .null, .null, .ref q1, .ref q2, .int 0, .ref q3, .ref q4, .int 0, .int 0, .null, .null, .int 0, .int 0, .int 0, .int 0, .int 0])), (q1, .inl (G.2.1 0, 13, .inl (fun _ => 0))), (q2, .inl (G.2.1 0, 13, .inl (fun _ => 0))), (q3, .inl (G.2.1 0, 1400, .inl (fun _ => 0))), (q4, .inl (G.2.1 0, 1400, .inl (fun _ => 0)))] dX1_init_40 zw393 rfl rfl rfl rfl rfl (kk := ?_)
  refine z_aload_n hC (pc := 43) 0 dX1_init_43 rfl rfl ?_
  refine z_iconst hC (pc := 44) (v := 0) dX1_init_44 (by decide) ?_
  refine z_put hC (pc := 45) zf1 0 10 [(h0, .inr (1, [.null, .null, .null, .null, .null, .ref q1, .ref q2, .int 0, .ref q3, .ref q4, .int 0, .int 0, .null, .null, .int 0, .int 0, .int 0, .int 0, .int 0])), (q1, .inl (G.2.1 0, 13, .inl (fun _ => 0))), (q2, .inl (G.2.1 0, 13, .inl (fun _ => 0))), (q3, .inl (G.2.1 0, 1400, .inl (fun _ => 0))), (q4, .inl (G.2.1 0, 1400, .inl (fun _ => 0)))] dX1_init_45 zw394 rfl rfl rfl rfl rfl (kk := ?_)
  refine z_aload_n hC (pc := 48) 0 dX1_init_48 rfl rfl ?_
  refine z_ldc hC (pc := 49) (v := 1476395008) dX1_init_49 zw323 ?_
  refine z_put hC (pc := 51) zf1 0 11 [(h0, .inr (1, [.null, .null, .null, .null, .null, .ref q1, .ref q2, .int 0, .ref q3, .ref q4, .int 0, .int 1476395008, .null, .null, .int 0, .int 0, .int 0, .int 0, .int 0])), (q1, .inl (G.2.1 0, 13, .inl (fun _ => 0))), (q2, .inl (G.2.1 0, 13, .inl (fun _ => 0))), (q3, .inl (G.2.1 0, 1400, .inl (fun _ => 0))), (q4, .inl (G.2.1 0, 1400, .inl (fun _ => 0)))] dX1_init_51 zw395 rfl rfl rfl rfl rfl (kk := ?_)
  refine z_aload_n hC (pc := 54) 0 dX1_init_54 rfl rfl ?_
  refine z_bipush hC (pc := 55) (v := 9) dX1_init_55 (by decide) ?_
  refine z_newa0 hC (pc := 57) (N := 9) (k := 4) (n := 2826) dX1_init_57 (by decide) rfl (Nat.le_of_ble_eq_true rfl) (Nat.le_of_ble_eq_true rfl) (Nat.le_of_ble_eq_true rfl) (fun q5 => ?_)
  refine z_putF hC (pc := 59) zf1 0 12 [(h0, .inr (1, [.null, .null, .null, .null, .null, .ref q1, .ref q2, .int 0, .ref q3, .ref q4, .int 0, .int 1476395008, .ref q5, .null, .int 0, .int 0, .int 0, .int 0, .int 0])), (q1, .inl (G.2.1 0, 13, .inl (fun _ => 0))), (q2, .inl (G.2.1 0, 13, .inl (fun _ => 0))), (q3, .inl (G.2.1 0, 1400, .inl (fun _ => 0))), (q4, .inl (G.2.1 0, 1400, .inl (fun _ => 0))), (q5, .inl (G.2.1 0, 9, .inl (fun _ => 0)))] dX1_init_59 zw396 rfl rfl rfl rfl rfl (kk := ?_)
  refine z_aload_n hC (pc := 62) 0 dX1_init_62 rfl rfl ?_
  refine z_bipush hC (pc := 63) (v := 9) dX1_init_63 (by decide) ?_
  refine z_newa0 hC (pc := 65) (N := 9) (k := 5) (n := 2835) dX1_init_65 (by decide) rfl (Nat.le_of_ble_eq_true rfl) (Nat.le_of_ble_eq_true rfl) (Nat.le_of_ble_eq_true rfl) (fun q6 => ?_)
  refine z_putF hC (pc := 67) zf1 0 13 [(h0, .inr (1, [.null, .null, .null, .null, .null, .ref q1, .ref q2, .int 0, .ref q3, .ref q4, .int 0, .int 1476395008, .ref q5, .ref q6, .int 0, .int 0, .int 0, .int 0, .int 0])), (q1, .inl (G.2.1 0, 13, .inl (fun _ => 0))), (q2, .inl (G.2.1 0, 13, .inl (fun _ => 0))), (q3, .inl (G.2.1 0, 1400, .inl (fun _ => 0))), (q4, .inl (G.2.1 0, 1400, .inl (fun _ => 0))), (q5, .inl (G.2.1 0, 9, .inl (fun _ => 0))), (q6, .inl (G.2.1 0, 9, .inl (fun _ => 0)))] dX1_init_67 zw397 rfl rfl rfl rfl rfl (kk := ?_)
  refine z_aload_n hC (pc := 70) 0 dX1_init_70 rfl rfl ?_
  refine z_iconst hC (pc := 71) (v := 0) dX1_init_71 (by decide) ?_
  refine z_put hC (pc := 72) zf1 0 14 [(h0, .inr (1, [.null, .null, .null, .null, .null, .ref q1, .ref q2, .int 0, .ref q3, .ref q4, .int 0, .int 1476395008, .ref q5, .ref q6, .int 0, .int 0, .int 0, .int 0, .int 0])), (q1, .inl (G.2.1 0, 13, .inl (fun _ => 0))), (q2, .inl (G.2.1 0, 13, .inl (fun _ => 0))), (q3, .inl (G.2.1 0, 1400, .inl (fun _ => 0))), (q4, .inl (G.2.1 0, 1400, .inl (fun _ => 0))), (q5, .inl (G.2.1 0, 9, .inl (fun _ => 0))), (q6, .inl (G.2.1 0, 9, .inl (fun _ => 0)))] dX1_init_72 zw398 rfl rfl rfl rfl rfl (kk := ?_)
  refine z_aload_n hC (pc := 75) 0 dX1_init_75 rfl rfl ?_
  refine z_iconst hC (pc := 76) (v := 0) dX1_init_76 (by decide) ?_
  refine z_put hC (pc := 77) zf1 0 15 [(h0, .inr (1, [.null, .null, .null, .null, .null, .ref q1, .ref q2, .int 0, .ref q3, .ref q4, .int 0, .int 1476395008, .ref q5, .ref q6, .int 0, .int 0, .int 0, .int 0, .int 0])), (q1, .inl (G.2.1 0, 13, .inl (fun _ => 0))), (q2, .inl (G.2.1 0, 13, .inl (fun _ => 0))), (q3, .inl (G.2.1 0, 1400, .inl (fun _ => 0))), (q4, .inl (G.2.1 0, 1400, .inl (fun _ => 0))), (q5, .inl (G.2.1 0, 9, .inl (fun _ => 0))), (q6, .inl (G.2.1 0, 9, .inl (fun _ => 0)))] dX1_init_77 zw399 rfl rfl rfl rfl rfl (kk := ?_)
  refine z_aload_n hC (pc := 80) 0 dX1_init_80 rfl rfl ?_
  refine z_iconst hC (pc := 81) (v := 0) dX1_init_81 (by decide) ?_
  refine z_put hC (pc := 82) zf1 0 16 [(h0, .inr (1, [.null, .null, .null, .null, .null, .ref q1, .ref q2, .int 0, .ref q3, .ref q4, .int 0, .int 1476395008, .ref q5, .ref q6, .int 0, .int 0, .int 0, .int 0, .int 0])), (q1, .inl (G.2.1 0, 13, .inl (fun _ => 0))), (q2, .inl (G.2.1 0, 13, .inl (fun _ => 0))), (q3, .inl (G.2.1 0, 1400, .inl (fun _ => 0))), (q4, .inl (G.2.1 0, 1400, .inl (fun _ => 0))), (q5, .inl (G.2.1 0, 9, .inl (fun _ => 0))), (q6, .inl (G.2.1 0, 9, .inl (fun _ => 0)))] dX1_init_82 zw400 rfl rfl rfl rfl rfl (kk := ?_)
  refine z_aload_n hC (pc := 85) 0 dX1_init_85 rfl rfl ?_
  refine z_iconst hC (pc := 86) (v := (-1)) dX1_init_86 (by decide) ?_
  refine z_put hC (pc := 87) zf1 0 17 [(h0, .inr (1, [.null, .null, .null, .null, .null, .ref q1, .ref q2, .int 0, .ref q3, .ref q4, .int 0, .int 1476395008, .ref q5, .ref q6, .int 0, .int 0, .int 0, .int (-1), .int 0])), (q1, .inl (G.2.1 0, 13, .inl (fun _ => 0))), (q2, .inl (G.2.1 0, 13, .inl (fun _ => 0))), (q3, .inl (G.2.1 0, 1400, .inl (fun _ => 0))), (q4, .inl (G.2.1 0, 1400, .inl (fun _ => 0))), (q5, .inl (G.2.1 0, 9, .inl (fun _ => 0))), (q6, .inl (G.2.1 0, 9, .inl (fun _ => 0)))] dX1_init_87 zw401 rfl rfl rfl rfl rfl (kk := ?_)
  refine z_aload_n hC (pc := 90) 0 dX1_init_90 rfl rfl ?_
  refine z_iconst hC (pc := 91) (v := 0) dX1_init_91 (by decide) ?_
  refine z_put hC (pc := 92) zf1 0 18 [(h0, .inr (1, [.null, .null, .null, .null, .null, .ref q1, .ref q2, .int 0, .ref q3, .ref q4, .int 0, .int 1476395008, .ref q5, .ref q6, .int 0, .int 0, .int 0, .int (-1), .int 0])), (q1, .inl (G.2.1 0, 13, .inl (fun _ => 0))), (q2, .inl (G.2.1 0, 13, .inl (fun _ => 0))), (q3, .inl (G.2.1 0, 1400, .inl (fun _ => 0))), (q4, .inl (G.2.1 0, 1400, .inl (fun _ => 0))), (q5, .inl (G.2.1 0, 9, .inl (fun _ => 0))), (q6, .inl (G.2.1 0, 9, .inl (fun _ => 0)))] dX1_init_92 zw402 rfl rfl rfl rfl rfl (kk := ?_)
  refine z_aload_n hC (pc := 95) 0 dX1_init_95 rfl rfl ?_
  refine z_aload hC (pc := 96) 4 dX1_init_96 rfl ?_
  refine z_put hC (pc := 98) zf1 0 3 [(h0, .inr (1, [.null, .null, .null, .ref g4, .null, .ref q1, .ref q2, .int 0, .ref q3, .ref q4, .int 0, .int 1476395008, .ref q5, .ref q6, .int 0, .int 0, .int 0, .int (-1), .int 0])), (q1, .inl (G.2.1 0, 13, .inl (fun _ => 0))), (q2, .inl (G.2.1 0, 13, .inl (fun _ => 0))), (q3, .inl (G.2.1 0, 1400, .inl (fun _ => 0))), (q4, .inl (G.2.1 0, 1400, .inl (fun _ => 0))), (q5, .inl (G.2.1 0, 9, .inl (fun _ => 0))), (q6, .inl (G.2.1 0, 9, .inl (fun _ => 0)))] dX1_init_98 zw387 rfl rfl rfl rfl rfl (kk := ?_)
  refine z_aload_n hC (pc := 101) 0 dX1_init_101 rfl rfl ?_
  refine z_aload_n hC (pc := 102) 1 dX1_init_102 rfl rfl ?_
  refine z_putF hC (pc := 103) zf1 0 0 [(h0, .inr (1, [.ref g1, .null, .null, .ref g4, .null, .ref q1, .ref q2, .int 0, .ref q3, .ref q4, .int 0, .int 1476395008, .ref q5, .ref q6, .int 0, .int 0, .int 0, .int (-1), .int 0])), (q1, .inl (G.2.1 0, 13, .inl (fun _ => 0))), (q2, .inl (G.2.1 0, 13, .inl (fun _ => 0))), (q3, .inl (G.2.1 0, 1400, .inl (fun _ => 0))), (q4, .inl (G.2.1 0, 1400, .inl (fun _ => 0))), (q5, .inl (G.2.1 0, 9, .inl (fun _ => 0))), (q6, .inl (G.2.1 0, 9, .inl (fun _ => 0)))] dX1_init_103 zw384 rfl rfl rfl rfl rfl (kk := ?_)
  refine z_aload_n hC (pc := 106) 0 dX1_init_106 rfl rfl ?_
  refine z_aload_n hC (pc := 107) 2 dX1_init_107 rfl rfl ?_
  refine z_putF hC (pc := 108) zf1 0 1 [(h0, .inr (1, [.ref g1, .ref g2, .null, .ref g4, .null, .ref q1, .ref q2, .int 0, .ref q3, .ref q4, .int 0, .int 1476395008, .ref q5, .ref q6, .int 0, .int 0, .int 0, .int (-1), .int 0])), (q1, .inl (G.2.1 0, 13, .inl (fun _ => 0))), (q2, .inl (G.2.1 0, 13, .inl (fun _ => 0))), (q3, .inl (G.2.1 0, 1400, .inl (fun _ => 0))), (q4, .inl (G.2.1 0, 1400, .inl (fun _ => 0))), (q5, .inl (G.2.1 0, 9, .inl (fun _ => 0))), (q6, .inl (G.2.1 0, 9, .inl (fun _ => 0)))] dX1_init_108 zw385 rfl rfl rfl rfl rfl (kk := ?_)
  refine z_aload_n hC (pc := 111) 0 dX1_init_111 rfl rfl ?_
  refine z_aload_n hC (pc := 112) 3 dX1_init_112 rfl rfl ?_
  refine z_putF hC (pc := 113) zf1 0 2 [(h0, .inr (1, [.ref g1, .ref g2, .ref g3, .ref g4, .null, .ref q1, .ref q2, .int 0, .ref q3, .ref q4, .int 0, .int 1476395008, .ref q5, .ref q6, .int 0, .int 0, .int 0, .int (-1), .int 0])), (q1, .inl (G.2.1 0, 13, .inl (fun _ => 0))), (q2, .inl (G.2.1 0, 13, .inl (fun _ => 0))), (q3, .inl (G.2.1 0, 1400, .inl (fun _ => 0))), (q4, .inl (G.2.1 0, 1400, .inl (fun _ => 0))), (q5, .inl (G.2.1 0, 9, .inl (fun _ => 0))), (q6, .inl (G.2.1 0, 9, .inl (fun _ => 0)))] dX1_init_113 zw386 rfl rfl rfl rfl rfl (kk := ?_)
  refine z_aload_n hC (pc := 116) 0 dX1_init_116 rfl rfl ?_
  refine z_new hC (pc := 117) (k := 6) (n := 2844) zf10 [.null, .null, .int 0, .int 0, .int 0, .int 0, .int 0, .int 0, .int 0, .int 0, .int 0, .int 0, .int 0, .int 0, .int 0, .int 0, .int 0] dX1_init_117 zw324 zw325 zw8 zd10 (Nat.le_of_ble_eq_true rfl) (Nat.le_of_ble_eq_true rfl) (fun q7 => ?_)
  refine z_dup hC (pc := 120) dX1_init_120 rfl ?_
  refine z_aload_n hC (pc := 121) 3 dX1_init_121 rfl rfl ?_
  refine z_aload hC (pc := 122) 4 dX1_init_122 rfl ?_
  refine z_callI hC (pc := 124) (k := 7) (n := 2861) (As := [.ref g3, .ref g4]) (wr := [(h0, .inr (1, [.ref g1, .ref g2, .ref g3, .ref g4, .null, .ref q1, .ref q2, .int 0, .ref q3, .ref q4, .int 0, .int 1476395008, .ref q5, .ref q6, .int 0, .int 0, .int 0, .int (-1), .int 0])), (q1, .inl (G.2.1 0, 13, .inl (fun _ => 0))), (q2, .inl (G.2.1 0, 13, .inl (fun _ => 0))), (q3, .inl (G.2.1 0, 1400, .inl (fun _ => 0))), (q4, .inl (G.2.1 0, 1400, .inl (fun _ => 0))), (q5, .inl (G.2.1 0, 9, .inl (fun _ => 0))), (q6, .inl (G.2.1 0, 9, .inl (fun _ => 0)))]) (kX10_init_6 l G q7 g3 g4) dmX10_init [7] [0, 1, 2, 3, 4, 5, 6] rfl rfl rfl dX1_init_124 zw326 rfl rfl (Nat.le_of_ble_eq_true rfl) (Nat.le_of_ble_eq_true rfl) (Nat.le_of_ble_eq_true rfl) (Nat.le_of_ble_eq_true rfl) (Nat.le_of_ble_eq_true rfl) (fun w hp => ?_)
  obtain rfl := hp
  refine z_putF hC (pc := 127) zf1 0 4 [(h0, .inr (1, [.ref g1, .ref g2, .ref g3, .ref g4, .ref q7, .ref q1, .ref q2, .int 0, .ref q3, .ref q4, .int 0, .int 1476395008, .ref q5, .ref q6, .int 0, .int 0, .int 0, .int (-1), .int 0])), (q1, .inl (G.2.1 0, 13, .inl (fun _ => 0))), (q2, .inl (G.2.1 0, 13, .inl (fun _ => 0))), (q3, .inl (G.2.1 0, 1400, .inl (fun _ => 0))), (q4, .inl (G.2.1 0, 1400, .inl (fun _ => 0))), (q5, .inl (G.2.1 0, 9, .inl (fun _ => 0))), (q6, .inl (G.2.1 0, 9, .inl (fun _ => 0))), (q7, .inr (10, [.ref g3, .ref g4, .int 60, .int 62, .int 2, .int (-1), .int (-1), .int 0, .int 0, .int 0, .int 0, .int 1, .int 0, .int 0, .int 0, .int 0, .int (-1)]))] dX1_init_127 zw388 rfl rfl rfl rfl rfl (kk := ?_)
  exact hR _ _ _ _ _ dX1_init_130 (Nat.le_of_ble_eq_true rfl) (Nat.le_of_ble_eq_true rfl) ⟨q1, q2, q3, q4, q5, q6, q7, rfl⟩
set_option maxRecDepth 100000 in
theorem kX0_init_8 (l : Launch) (G : zG) (h0 : Nat) (g1 : Nat) (g2 : Nat) : zMv l G yX0_init cX0_init 3 1 12 0 0 [.ref h0, .ref g1, .ref g2] [(h0, .inr (0, [.null, .null, .int 0, .int 0, .int 0]))] (fun w => w = [(h0, .inr (0, [.ref g1, .ref g2, .int 0, .int 0, .int 0]))]) := by
  refine zMv.intro (by decide) (Nat.le_of_ble_eq_true rfl) (fun X hC hR => ?_)
  refine z_aload_n hC (pc := 0) 0 dX0_init_0 rfl rfl ?_
  refine z_objInit hC (pc := 1) dX0_init_1 zw447 (Nat.le_of_ble_eq_true rfl) (Nat.le_of_ble_eq_true rfl) ?_
  refine z_aload_n hC (pc := 4) 0 dX0_init_4 rfl rfl ?_
  refine z_iconst hC (pc := 5) (v := 0) dX0_init_5 (by decide) ?_
  refine z_put hC (pc := 6) zf0 0 2 [(h0, .inr (0, [.null, .null, .int 0, .int 0, .int 0]))] dX0_init_6 zw450 rfl rfl rfl rfl rfl (kk := ?_)
  refine z_aload_n hC (pc := 9) 0 dX0_init_9 rfl rfl ?_
  refine z_iconst hC (pc := 10) (v := 0) dX0_init_10 (by decide) ?_
  refine z_put hC (pc := 11) zf0 0 3 [(h0, .inr (0, [.null, .null, .int 0, .int 0, .int 0]))] dX0_init_11 zw451 rfl rfl rfl rfl rfl (kk := ?_)
  refine z_aload_n hC (pc := 14) 0 dX0_init_14 rfl rfl ?_
  refine z_iconst hC (pc := 15) (v := 0) dX0_init_15 (by decide) ?_
  refine z_put hC (pc := 16) zf0 0 4 [(h0, .inr (0, [.null, .null, .int 0, .int 0, .int 0]))] dX0_init_16 zw452 rfl rfl rfl rfl rfl (kk := ?_)
  refine z_aload_n hC (pc := 19) 0 dX0_init_19 rfl rfl ?_
  refine z_aload_n hC (pc := 20) 1 dX0_init_20 rfl rfl ?_
  refine z_putF hC (pc := 21) zf0 0 0 [(h0, .inr (0, [.ref g1, .null, .int 0, .int 0, .int 0]))] dX0_init_21 zw448 rfl rfl rfl rfl rfl (kk := ?_)
  refine z_aload_n hC (pc := 24) 0 dX0_init_24 rfl rfl ?_
  refine z_aload_n hC (pc := 25) 2 dX0_init_25 rfl rfl ?_
  refine z_put hC (pc := 26) zf0 0 1 [(h0, .inr (0, [.ref g1, .ref g2, .int 0, .int 0, .int 0]))] dX0_init_26 zw449 rfl rfl rfl rfl rfl (kk := ?_)
  exact hR _ _ _ _ _ dX0_init_29 (Nat.le_of_ble_eq_true rfl) (Nat.le_of_ble_eq_true rfl) rfl
set_option maxRecDepth 100000 in
theorem kX9_init_9 (l : Launch) (G : zG) (h0 : Nat) : zMv l G yX9_init cX9_init 1 1 12 3 3203 [.ref h0] [(h0, .inr (9, [.null, .null, .null]))] (fun w => ∃ (q1 : Nat) (q2 : Nat) (q3 : Nat), w = [(h0, .inr (9, [.ref q1, .ref q2, .ref q3])), (q1, .inl (G.2.1 0, 1200, .inl (fun _ => 0))), (q2, .inl (G.2.1 0, 2000, .inl (fun _ => 0))), (q3, .inl (G.2.1 0, 3, .inl (fun _ => 0)))]) := by
  refine zMv.intro (by decide) (Nat.le_of_ble_eq_true rfl) (fun X hC hR => ?_)
  refine z_aload_n hC (pc := 0) 0 dX9_init_0 rfl rfl ?_
  refine z_objInit hC (pc := 1) dX9_init_1 zw477 (Nat.le_of_ble_eq_true rfl) (Nat.le_of_ble_eq_true rfl) ?_
  refine z_aload_n hC (pc := 4) 0 dX9_init_4 rfl rfl ?_
  refine z_sipush hC (pc := 5) (v := 1200) dX9_init_5 (by decide) ?_
  refine z_newa0 hC (pc := 8) (N := 1200) (k := 0) (n := 0) dX9_init_8 (by decide) rfl (Nat.le_of_ble_eq_true rfl) (Nat.le_of_ble_eq_true rfl) (Nat.le_of_ble_eq_true rfl) (fun q1 => ?_)
  refine z_putF hC (pc := 10) zf9 0 0 [(h0, .inr (9, [.ref q1, .null, .null])), (q1, .inl (G.2.1 0, 1200, .inl (fun _ => 0)))] dX9_init_10 zw478 rfl rfl rfl rfl rfl (kk := ?_)
  refine z_aload_n hC (pc := 13) 0 dX9_init_13 rfl rfl ?_
  refine z_sipush hC (pc := 14) (v := 2000) dX9_init_14 (by decide) ?_
  refine z_newa0 hC (pc := 17) (N := 2000) (k := 1) (n := 1200) dX9_init_17 (by decide) rfl (Nat.le_of_ble_eq_true rfl) (Nat.le_of_ble_eq_true rfl) (Nat.le_of_ble_eq_true rfl) (fun q2 => ?_)
  refine z_putF hC (pc := 19) zf9 0 1 [(h0, .inr (9, [.ref q1, .ref q2, .null])), (q1, .inl (G.2.1 0, 1200, .inl (fun _ => 0))), (q2, .inl (G.2.1 0, 2000, .inl (fun _ => 0)))] dX9_init_19 zw480 rfl rfl rfl rfl rfl (kk := ?_)
  refine z_aload_n hC (pc := 22) 0 dX9_init_22 rfl rfl ?_
  refine z_iconst hC (pc := 23) (v := 3) dX9_init_23 (by decide) ?_
  refine z_newa0 hC (pc := 24) (N := 3) (k := 2) (n := 3200) dX9_init_24 (by decide) rfl (Nat.le_of_ble_eq_true rfl) (Nat.le_of_ble_eq_true rfl) (Nat.le_of_ble_eq_true rfl) (fun q3 => ?_)
  refine z_putF hC (pc := 26) zf9 0 2 [(h0, .inr (9, [.ref q1, .ref q2, .ref q3])), (q1, .inl (G.2.1 0, 1200, .inl (fun _ => 0))), (q2, .inl (G.2.1 0, 2000, .inl (fun _ => 0))), (q3, .inl (G.2.1 0, 3, .inl (fun _ => 0)))] dX9_init_26 zw482 rfl rfl rfl rfl rfl (kk := ?_)
  exact hR _ _ _ _ _ dX9_init_29 (Nat.le_of_ble_eq_true rfl) (Nat.le_of_ble_eq_true rfl) ⟨q1, q2, q3, rfl⟩
set_option maxRecDepth 100000 in
theorem kX3_init_10 (l : Launch) (G : zG) (h0 : Nat) (g1 : Nat) (g2 : Nat) (g3 : Nat) : zMv l G yX3_init cX3_init 4 1 12 9 115100 [.ref h0, .ref g1, .ref g2, .ref g3] [(h0, .inr (3, [.null, .null, .null, .null, .null, .null, .null, .int 0, .null, .int 0, .int 0, .null, .int 0, .null, .null, .int 0, .null, .int 0, .int 0, .null]))] (fun w => ∃ (q1 : Nat) (q2 : Nat) (q3 : Nat) (q4 : Nat) (q5 : Nat) (q6 : Nat) (q7 : Nat) (q8 : Nat) (q9 : Nat), w = [(h0, .inr (3, [.ref g1, .ref g2, .ref g3, .ref q1, .ref q2, .ref q3, .ref q4, .int 0, .ref q5, .int 1, .int 0, .ref q6, .int 0, .ref q7, .ref q8, .int 0, .ref q6, .int 0, .int 0, .ref q9])), (q1, .inl (G.2.1 0, 2000, .inl (fun _ => 0))), (q2, .inl (G.2.1 0, 2000, .inl (fun _ => 0))), (q3, .inl (G.2.1 0, 2000, .inl (fun _ => 0))), (q4, .inl (G.2.1 0, 24000, .inl (fun _ => 0))), (q5, .inl (G.2.1 0, 45000, .inl (fun _ => 0))), (q6, .inl (G.2.1 1, 40000, .inl (fun _ => 0))), (q7, .inl (G.2.1 0, 40, .inl (fun _ => 0))), (q8, .inl (G.2.1 0, 40, .inl (fun _ => 0))), (q9, .inl (G.2.1 1, 20, .inl (fun _ => 0)))]) := by
  refine zMv.intro (by decide) (Nat.le_of_ble_eq_true rfl) (fun X hC hR => ?_)
  refine z_aload_n hC (pc := 0) 0 dX3_init_0 rfl rfl ?_
  refine z_objInit hC (pc := 1) dX3_init_1 zw499 (Nat.le_of_ble_eq_true rfl) (Nat.le_of_ble_eq_true rfl) ?_
  refine z_aload_n hC (pc := 4) 0 dX3_init_4 rfl rfl ?_
  refine z_sipush hC (pc := 5) (v := 2000) dX3_init_5 (by decide) ?_
  refine z_newa0 hC (pc := 8) (N := 2000) (k := 0) (n := 0) dX3_init_8 (by decide) rfl (Nat.le_of_ble_eq_true rfl) (Nat.le_of_ble_eq_true rfl) (Nat.le_of_ble_eq_true rfl) (fun q1 => ?_)
  refine z_putF hC (pc := 10) zf3 0 3 [(h0, .inr (3, [.null, .null, .null, .ref q1, .null, .null, .null, .int 0, .null, .int 0, .int 0, .null, .int 0, .null, .null, .int 0, .null, .int 0, .int 0, .null])), (q1, .inl (G.2.1 0, 2000, .inl (fun _ => 0)))] dX3_init_10 zw506 rfl rfl rfl rfl rfl (kk := ?_)
  refine z_aload_n hC (pc := 13) 0 dX3_init_13 rfl rfl ?_
  refine z_sipush hC (pc := 14) (v := 2000) dX3_init_14 (by decide) ?_
  refine z_newa0 hC (pc := 17) (N := 2000) (k := 1) (n := 2000) dX3_init_17 (by decide) rfl (Nat.le_of_ble_eq_true rfl) (Nat.le_of_ble_eq_true rfl) (Nat.le_of_ble_eq_true rfl) (fun q2 => ?_)
  refine z_putF hC (pc := 19) zf3 0 4 [(h0, .inr (3, [.null, .null, .null, .ref q1, .ref q2, .null, .null, .int 0, .null, .int 0, .int 0, .null, .int 0, .null, .null, .int 0, .null, .int 0, .int 0, .null])), (q1, .inl (G.2.1 0, 2000, .inl (fun _ => 0))), (q2, .inl (G.2.1 0, 2000, .inl (fun _ => 0)))] dX3_init_19 zw508 rfl rfl rfl rfl rfl (kk := ?_)
  refine z_aload_n hC (pc := 22) 0 dX3_init_22 rfl rfl ?_
  refine z_sipush hC (pc := 23) (v := 2000) dX3_init_23 (by decide) ?_
  refine z_newa0 hC (pc := 26) (N := 2000) (k := 2) (n := 4000) dX3_init_26 (by decide) rfl (Nat.le_of_ble_eq_true rfl) (Nat.le_of_ble_eq_true rfl) (Nat.le_of_ble_eq_true rfl) (fun q3 => ?_)
  refine z_putF hC (pc := 28) zf3 0 5 [(h0, .inr (3, [.null, .null, .null, .ref q1, .ref q2, .ref q3, .null, .int 0, .null, .int 0, .int 0, .null, .int 0, .null, .null, .int 0, .null, .int 0, .int 0, .null])), (q1, .inl (G.2.1 0, 2000, .inl (fun _ => 0))), (q2, .inl (G.2.1 0, 2000, .inl (fun _ => 0))), (q3, .inl (G.2.1 0, 2000, .inl (fun _ => 0)))] dX3_init_28 zw509 rfl rfl rfl rfl rfl (kk := ?_)
  refine z_aload_n hC (pc := 31) 0 dX3_init_31 rfl rfl ?_
  refine z_sipush hC (pc := 32) (v := 24000) dX3_init_32 (by decide) ?_
  refine z_newa0 hC (pc := 35) (N := 24000) (k := 3) (n := 6000) dX3_init_35 (by decide) rfl (Nat.le_of_ble_eq_true rfl) (Nat.le_of_ble_eq_true rfl) (Nat.le_of_ble_eq_true rfl) (fun q4 => ?_)
  refine z_putF hC (pc := 37) zf3 0 6 [(h0, .inr (3, [.null, .null, .null, .ref q1, .ref q2, .ref q3, .ref q4, .int 0, .null, .int 0, .int 0, .null, .int 0, .null, .null, .int 0, .null, .int 0, .int 0, .null])), (q1, .inl (G.2.1 0, 2000, .inl (fun _ => 0))), (q2, .inl (G.2.1 0, 2000, .inl (fun _ => 0))), (q3, .inl (G.2.1 0, 2000, .inl (fun _ => 0))), (q4, .inl (G.2.1 0, 24000, .inl (fun _ => 0)))] dX3_init_37 zw511 rfl rfl rfl rfl rfl (kk := ?_)
  refine z_aload_n hC (pc := 40) 0 dX3_init_40 rfl rfl ?_
  refine z_iconst hC (pc := 41) (v := 0) dX3_init_41 (by decide) ?_
  refine z_put hC (pc := 42) zf3 0 7 [(h0, .inr (3, [.null, .null, .null, .ref q1, .ref q2, .ref q3, .ref q4, .int 0, .null, .int 0, .int 0, .null, .int 0, .null, .null, .int 0, .null, .int 0, .int 0, .null])), (q1, .inl (G.2.1 0, 2000, .inl (fun _ => 0))), (q2, .inl (G.2.1 0, 2000, .inl (fun _ => 0))), (q3, .inl (G.2.1 0, 2000, .inl (fun _ => 0))), (q4, .inl (G.2.1 0, 24000, .inl (fun _ => 0)))] dX3_init_42 zw513 rfl rfl rfl rfl rfl (kk := ?_)
  refine z_aload_n hC (pc := 45) 0 dX3_init_45 rfl rfl ?_
  refine z_ldc hC (pc := 46) (v := 45000) dX3_init_46 zw500 ?_
  refine z_newa0 hC (pc := 48) (N := 45000) (k := 4) (n := 30000) dX3_init_48 (by decide) rfl (Nat.le_of_ble_eq_true rfl) (Nat.le_of_ble_eq_true rfl) (Nat.le_of_ble_eq_true rfl) (fun q5 => ?_)
  refine z_putF hC (pc := 50) zf3 0 8 [(h0, .inr (3, [.null, .null, .null, .ref q1, .ref q2, .ref q3, .ref q4, .int 0, .ref q5, .int 0, .int 0, .null, .int 0, .null, .null, .int 0, .null, .int 0, .int 0, .null])), (q1, .inl (G.2.1 0, 2000, .inl (fun _ => 0))), (q2, .inl (G.2.1 0, 2000, .inl (fun _ => 0))), (q3, .inl (G.2.1 0, 2000, .inl (fun _ => 0))), (q4, .inl (G.2.1 0, 24000, .inl (fun _ => 0))), (q5, .inl (G.2.1 0, 45000, .inl (fun _ => 0)))] dX3_init_50 zw514 rfl rfl rfl rfl rfl (kk := ?_)
  refine z_aload_n hC (pc := 53) 0 dX3_init_53 rfl rfl ?_
  refine z_iconst hC (pc := 54) (v := 1) dX3_init_54 (by decide) ?_
  refine z_put hC (pc := 55) zf3 0 9 [(h0, .inr (3, [.null, .null, .null, .ref q1, .ref q2, .ref q3, .ref q4, .int 0, .ref q5, .int 1, .int 0, .null, .int 0, .null, .null, .int 0, .null, .int 0, .int 0, .null])), (q1, .inl (G.2.1 0, 2000, .inl (fun _ => 0))), (q2, .inl (G.2.1 0, 2000, .inl (fun _ => 0))), (q3, .inl (G.2.1 0, 2000, .inl (fun _ => 0))), (q4, .inl (G.2.1 0, 24000, .inl (fun _ => 0))), (q5, .inl (G.2.1 0, 45000, .inl (fun _ => 0)))] dX3_init_55 zw515 rfl rfl rfl rfl rfl (kk := ?_)
  refine z_aload_n hC (pc := 58) 0 dX3_init_58 rfl rfl ?_
  refine z_iconst hC (pc := 59) (v := 0) dX3_init_59 (by decide) ?_
  refine z_put hC (pc := 60) zf3 0 10 [(h0, .inr (3, [.null, .null, .null, .ref q1, .ref q2, .ref q3, .ref q4, .int 0, .ref q5, .int 1, .int 0, .null, .int 0, .null, .null, .int 0, .null, .int 0, .int 0, .null])), (q1, .inl (G.2.1 0, 2000, .inl (fun _ => 0))), (q2, .inl (G.2.1 0, 2000, .inl (fun _ => 0))), (q3, .inl (G.2.1 0, 2000, .inl (fun _ => 0))), (q4, .inl (G.2.1 0, 24000, .inl (fun _ => 0))), (q5, .inl (G.2.1 0, 45000, .inl (fun _ => 0)))] dX3_init_60 zw516 rfl rfl rfl rfl rfl (kk := ?_)
  refine z_aload_n hC (pc := 63) 0 dX3_init_63 rfl rfl ?_
  refine z_ldc hC (pc := 64) (v := 40000) dX3_init_64 zw501 ?_
  refine z_newa1 hC (pc := 66) (N := 40000) (k := 5) (n := 75000) dX3_init_66 (by decide) rfl (Nat.le_of_ble_eq_true rfl) (Nat.le_of_ble_eq_true rfl) (Nat.le_of_ble_eq_true rfl) (fun q6 => ?_)
  refine z_putF hC (pc := 68) zf3 0 11 [(h0, .inr (3, [.null, .null, .null, .ref q1, .ref q2, .ref q3, .ref q4, .int 0, .ref q5, .int 1, .int 0, .ref q6, .int 0, .null, .null, .int 0, .null, .int 0, .int 0, .null])), (q1, .inl (G.2.1 0, 2000, .inl (fun _ => 0))), (q2, .inl (G.2.1 0, 2000, .inl (fun _ => 0))), (q3, .inl (G.2.1 0, 2000, .inl (fun _ => 0))), (q4, .inl (G.2.1 0, 24000, .inl (fun _ => 0))), (q5, .inl (G.2.1 0, 45000, .inl (fun _ => 0))), (q6, .inl (G.2.1 1, 40000, .inl (fun _ => 0)))] dX3_init_68 zw517 rfl rfl rfl rfl rfl (kk := ?_)
  refine z_aload_n hC (pc := 71) 0 dX3_init_71 rfl rfl ?_
  refine z_iconst hC (pc := 72) (v := 0) dX3_init_72 (by decide) ?_
  refine z_put hC (pc := 73) zf3 0 12 [(h0, .inr (3, [.null, .null, .null, .ref q1, .ref q2, .ref q3, .ref q4, .int 0, .ref q5, .int 1, .int 0, .ref q6, .int 0, .null, .null, .int 0, .null, .int 0, .int 0, .null])), (q1, .inl (G.2.1 0, 2000, .inl (fun _ => 0))), (q2, .inl (G.2.1 0, 2000, .inl (fun _ => 0))), (q3, .inl (G.2.1 0, 2000, .inl (fun _ => 0))), (q4, .inl (G.2.1 0, 24000, .inl (fun _ => 0))), (q5, .inl (G.2.1 0, 45000, .inl (fun _ => 0))), (q6, .inl (G.2.1 1, 40000, .inl (fun _ => 0)))] dX3_init_73 zw519 rfl rfl rfl rfl rfl (kk := ?_)
  refine z_aload_n hC (pc := 76) 0 dX3_init_76 rfl rfl ?_
  refine z_bipush hC (pc := 77) (v := 40) dX3_init_77 (by decide) ?_
  refine z_newa0 hC (pc := 79) (N := 40) (k := 6) (n := 115000) dX3_init_79 (by decide) rfl (Nat.le_of_ble_eq_true rfl) (Nat.le_of_ble_eq_true rfl) (Nat.le_of_ble_eq_true rfl) (fun q7 => ?_)
  refine z_putF hC (pc := 81) zf3 0 13 [(h0, .inr (3, [.null, .null, .null, .ref q1, .ref q2, .ref q3, .ref q4, .int 0, .ref q5, .int 1, .int 0, .ref q6, .int 0, .ref q7, .null, .int 0, .null, .int 0, .int 0, .null])), (q1, .inl (G.2.1 0, 2000, .inl (fun _ => 0))), (q2, .inl (G.2.1 0, 2000, .inl (fun _ => 0))), (q3, .inl (G.2.1 0, 2000, .inl (fun _ => 0))), (q4, .inl (G.2.1 0, 24000, .inl (fun _ => 0))), (q5, .inl (G.2.1 0, 45000, .inl (fun _ => 0))), (q6, .inl (G.2.1 1, 40000, .inl (fun _ => 0))), (q7, .inl (G.2.1 0, 40, .inl (fun _ => 0)))] dX3_init_81 zw520 rfl rfl rfl rfl rfl (kk := ?_)
  refine z_aload_n hC (pc := 84) 0 dX3_init_84 rfl rfl ?_
  refine z_bipush hC (pc := 85) (v := 40) dX3_init_85 (by decide) ?_
  refine z_newa0 hC (pc := 87) (N := 40) (k := 7) (n := 115040) dX3_init_87 (by decide) rfl (Nat.le_of_ble_eq_true rfl) (Nat.le_of_ble_eq_true rfl) (Nat.le_of_ble_eq_true rfl) (fun q8 => ?_)
  refine z_putF hC (pc := 89) zf3 0 14 [(h0, .inr (3, [.null, .null, .null, .ref q1, .ref q2, .ref q3, .ref q4, .int 0, .ref q5, .int 1, .int 0, .ref q6, .int 0, .ref q7, .ref q8, .int 0, .null, .int 0, .int 0, .null])), (q1, .inl (G.2.1 0, 2000, .inl (fun _ => 0))), (q2, .inl (G.2.1 0, 2000, .inl (fun _ => 0))), (q3, .inl (G.2.1 0, 2000, .inl (fun _ => 0))), (q4, .inl (G.2.1 0, 24000, .inl (fun _ => 0))), (q5, .inl (G.2.1 0, 45000, .inl (fun _ => 0))), (q6, .inl (G.2.1 1, 40000, .inl (fun _ => 0))), (q7, .inl (G.2.1 0, 40, .inl (fun _ => 0))), (q8, .inl (G.2.1 0, 40, .inl (fun _ => 0)))] dX3_init_89 zw521 rfl rfl rfl rfl rfl (kk := ?_)
  refine z_aload_n hC (pc := 92) 0 dX3_init_92 rfl rfl ?_
  refine z_iconst hC (pc := 93) (v := 0) dX3_init_93 (by decide) ?_
  refine z_put hC (pc := 94) zf3 0 15 [(h0, .inr (3, [.null, .null, .null, .ref q1, .ref q2, .ref q3, .ref q4, .int 0, .ref q5, .int 1, .int 0, .ref q6, .int 0, .ref q7, .ref q8, .int 0, .null, .int 0, .int 0, .null])), (q1, .inl (G.2.1 0, 2000, .inl (fun _ => 0))), (q2, .inl (G.2.1 0, 2000, .inl (fun _ => 0))), (q3, .inl (G.2.1 0, 2000, .inl (fun _ => 0))), (q4, .inl (G.2.1 0, 24000, .inl (fun _ => 0))), (q5, .inl (G.2.1 0, 45000, .inl (fun _ => 0))), (q6, .inl (G.2.1 1, 40000, .inl (fun _ => 0))), (q7, .inl (G.2.1 0, 40, .inl (fun _ => 0))), (q8, .inl (G.2.1 0, 40, .inl (fun _ => 0)))] dX3_init_94 zw522 rfl rfl rfl rfl rfl (kk := ?_)
  refine z_aload_n hC (pc := 97) 0 dX3_init_97 rfl rfl ?_
  refine z_aload_n hC (pc := 98) 0 dX3_init_98 rfl rfl ?_
  refine z_get hC (pc := 99) zf3 0 11 dX3_init_99 zw517 rfl rfl (kk := ?_)
  refine z_put hC (pc := 102) zf3 0 16 [(h0, .inr (3, [.null, .null, .null, .ref q1, .ref q2, .ref q3, .ref q4, .int 0, .ref q5, .int 1, .int 0, .ref q6, .int 0, .ref q7, .ref q8, .int 0, .ref q6, .int 0, .int 0, .null])), (q1, .inl (G.2.1 0, 2000, .inl (fun _ => 0))), (q2, .inl (G.2.1 0, 2000, .inl (fun _ => 0))), (q3, .inl (G.2.1 0, 2000, .inl (fun _ => 0))), (q4, .inl (G.2.1 0, 24000, .inl (fun _ => 0))), (q5, .inl (G.2.1 0, 45000, .inl (fun _ => 0))), (q6, .inl (G.2.1 1, 40000, .inl (fun _ => 0))), (q7, .inl (G.2.1 0, 40, .inl (fun _ => 0))), (q8, .inl (G.2.1 0, 40, .inl (fun _ => 0)))] dX3_init_102 zw523 rfl rfl rfl rfl rfl (kk := ?_)
  refine z_aload_n hC (pc := 105) 0 dX3_init_105 rfl rfl ?_
  refine z_iconst hC (pc := 106) (v := 0) dX3_init_106 (by decide) ?_
  refine z_put hC (pc := 107) zf3 0 17 [(h0, .inr (3, [.null, .null, .null, .ref q1, .ref q2, .ref q3, .ref q4, .int 0, .ref q5, .int 1, .int 0, .ref q6, .int 0, .ref q7, .ref q8, .int 0, .ref q6, .int 0, .int 0, .null])), (q1, .inl (G.2.1 0, 2000, .inl (fun _ => 0))), (q2, .inl (G.2.1 0, 2000, .inl (fun _ => 0))), (q3, .inl (G.2.1 0, 2000, .inl (fun _ => 0))), (q4, .inl (G.2.1 0, 24000, .inl (fun _ => 0))), (q5, .inl (G.2.1 0, 45000, .inl (fun _ => 0))), (q6, .inl (G.2.1 1, 40000, .inl (fun _ => 0))), (q7, .inl (G.2.1 0, 40, .inl (fun _ => 0))), (q8, .inl (G.2.1 0, 40, .inl (fun _ => 0)))] dX3_init_107 zw525 rfl rfl rfl rfl rfl (kk := ?_)
  refine z_aload_n hC (pc := 110) 0 dX3_init_110 rfl rfl ?_
  refine z_iconst hC (pc := 111) (v := 0) dX3_init_111 (by decide) ?_
  refine z_put hC (pc := 112) zf3 0 18 [(h0, .inr (3, [.null, .null, .null, .ref q1, .ref q2, .ref q3, .ref q4, .int 0, .ref q5, .int 1, .int 0, .ref q6, .int 0, .ref q7, .ref q8, .int 0, .ref q6, .int 0, .int 0, .null])), (q1, .inl (G.2.1 0, 2000, .inl (fun _ => 0))), (q2, .inl (G.2.1 0, 2000, .inl (fun _ => 0))), (q3, .inl (G.2.1 0, 2000, .inl (fun _ => 0))), (q4, .inl (G.2.1 0, 24000, .inl (fun _ => 0))), (q5, .inl (G.2.1 0, 45000, .inl (fun _ => 0))), (q6, .inl (G.2.1 1, 40000, .inl (fun _ => 0))), (q7, .inl (G.2.1 0, 40, .inl (fun _ => 0))), (q8, .inl (G.2.1 0, 40, .inl (fun _ => 0)))] dX3_init_112 zw527 rfl rfl rfl rfl rfl (kk := ?_)
  refine z_aload_n hC (pc := 115) 0 dX3_init_115 rfl rfl ?_
  refine z_bipush hC (pc := 116) (v := 20) dX3_init_116 (by decide) ?_
  refine z_newa1 hC (pc := 118) (N := 20) (k := 8) (n := 115080) dX3_init_118 (by decide) rfl (Nat.le_of_ble_eq_true rfl) (Nat.le_of_ble_eq_true rfl) (Nat.le_of_ble_eq_true rfl) (fun q9 => ?_)
  refine z_putF hC (pc := 120) zf3 0 19 [(h0, .inr (3, [.null, .null, .null, .ref q1, .ref q2, .ref q3, .ref q4, .int 0, .ref q5, .int 1, .int 0, .ref q6, .int 0, .ref q7, .ref q8, .int 0, .ref q6, .int 0, .int 0, .ref q9])), (q1, .inl (G.2.1 0, 2000, .inl (fun _ => 0))), (q2, .inl (G.2.1 0, 2000, .inl (fun _ => 0))), (q3, .inl (G.2.1 0, 2000, .inl (fun _ => 0))), (q4, .inl (G.2.1 0, 24000, .inl (fun _ => 0))), (q5, .inl (G.2.1 0, 45000, .inl (fun _ => 0))), (q6, .inl (G.2.1 1, 40000, .inl (fun _ => 0))), (q7, .inl (G.2.1 0, 40, .inl (fun _ => 0))), (q8, .inl (G.2.1 0, 40, .inl (fun _ => 0))), (q9, .inl (G.2.1 1, 20, .inl (fun _ => 0)))] dX3_init_120 zw529 rfl rfl rfl rfl rfl (kk := ?_)
  refine z_aload_n hC (pc := 123) 0 dX3_init_123 rfl rfl ?_
  refine z_aload_n hC (pc := 124) 1 dX3_init_124 rfl rfl ?_
  refine z_putF hC (pc := 125) zf3 0 0 [(h0, .inr (3, [.ref g1, .null, .null, .ref q1, .ref q2, .ref q3, .ref q4, .int 0, .ref q5, .int 1, .int 0, .ref q6, .int 0, .ref q7, .ref q8, .int 0, .ref q6, .int 0, .int 0, .ref q9])), (q1, .inl (G.2.1 0, 2000, .inl (fun _ => 0))), (q2, .inl (G.2.1 0, 2000, .inl (fun _ => 0))), (q3, .inl (G.2.1 0, 2000, .inl (fun _ => 0))), (q4, .inl (G.2.1 0, 24000, .inl (fun _ => 0))), (q5, .inl (G.2.1 0, 45000, .inl (fun _ => 0))), (q6, .inl (G.2.1 1, 40000, .inl (fun _ => 0))), (q7, .inl (G.2.1 0, 40, .inl (fun _ => 0))), (q8, .inl (G.2.1 0, 40, .inl (fun _ => 0))), (q9, .inl (G.2.1 1, 20, .inl (fun _ => 0)))] dX3_init_125 zw502 rfl rfl rfl rfl rfl (kk := ?_)
  refine z_aload_n hC (pc := 128) 0 dX3_init_128 rfl rfl ?_
  refine z_aload_n hC (pc := 129) 2 dX3_init_129 rfl rfl ?_
  refine z_putF hC (pc := 130) zf3 0 1 [(h0, .inr (3, [.ref g1, .ref g2, .null, .ref q1, .ref q2, .ref q3, .ref q4, .int 0, .ref q5, .int 1, .int 0, .ref q6, .int 0, .ref q7, .ref q8, .int 0, .ref q6, .int 0, .int 0, .ref q9])), (q1, .inl (G.2.1 0, 2000, .inl (fun _ => 0))), (q2, .inl (G.2.1 0, 2000, .inl (fun _ => 0))), (q3, .inl (G.2.1 0, 2000, .inl (fun _ => 0))), (q4, .inl (G.2.1 0, 24000, .inl (fun _ => 0))), (q5, .inl (G.2.1 0, 45000, .inl (fun _ => 0))), (q6, .inl (G.2.1 1, 40000, .inl (fun _ => 0))), (q7, .inl (G.2.1 0, 40, .inl (fun _ => 0))), (q8, .inl (G.2.1 0, 40, .inl (fun _ => 0))), (q9, .inl (G.2.1 1, 20, .inl (fun _ => 0)))] dX3_init_130 zw504 rfl rfl rfl rfl rfl (kk := ?_)
  refine z_aload_n hC (pc := 133) 0 dX3_init_133 rfl rfl ?_
  refine z_aload_n hC (pc := 134) 3 dX3_init_134 rfl rfl ?_
  refine z_put hC (pc := 135) zf3 0 2 [(h0, .inr (3, [.ref g1, .ref g2, .ref g3, .ref q1, .ref q2, .ref q3, .ref q4, .int 0, .ref q5, .int 1, .int 0, .ref q6, .int 0, .ref q7, .ref q8, .int 0, .ref q6, .int 0, .int 0, .ref q9])), (q1, .inl (G.2.1 0, 2000, .inl (fun _ => 0))), (q2, .inl (G.2.1 0, 2000, .inl (fun _ => 0))), (q3, .inl (G.2.1 0, 2000, .inl (fun _ => 0))), (q4, .inl (G.2.1 0, 24000, .inl (fun _ => 0))), (q5, .inl (G.2.1 0, 45000, .inl (fun _ => 0))), (q6, .inl (G.2.1 1, 40000, .inl (fun _ => 0))), (q7, .inl (G.2.1 0, 40, .inl (fun _ => 0))), (q8, .inl (G.2.1 0, 40, .inl (fun _ => 0))), (q9, .inl (G.2.1 1, 20, .inl (fun _ => 0)))] dX3_init_135 zw505 rfl rfl rfl rfl rfl (kk := ?_)
  exact hR _ _ _ _ _ dX3_init_138 (Nat.le_of_ble_eq_true rfl) (Nat.le_of_ble_eq_true rfl) ⟨q1, q2, q3, q4, q5, q6, q7, q8, q9, rfl⟩
set_option maxRecDepth 100000 in
theorem kX11_init_11 (l : Launch) (G : zG) (h0 : Nat) (h1 : Nat) (g2 : Nat) (g3 : Nat) (g4 : Nat) (g5 : Nat) (g6 : Nat) (g7 : Nat) (g8 : Nat) (g9 : Nat) (g10 : Nat) (g11 : Nat) (g12 : Nat) (g13 : Nat) : zMv l G yX11_init cX11_init 3 1 12 4 81200 [.ref h0, .ref g2, .ref h1] [(h0, .inr (11, [.null, .null, .null, .int 0, .int 0, .int 0, .int 0, .int 0, .int 0, .null, .int 0, .null, .null, .int 0, .int 0, .int 0])), (h1, .inr (2, [.ref g3, .ref g4, .ref g5, .int 1, .ref g6, .ref g7, .int 0, .ref g8, .int 0, .ref g9, .int 0, .ref g10, .int 0, .ref g11, .ref g12, .ref g13, .int 0]))] (fun w => ∃ (q1 : Nat) (q2 : Nat) (q3 : Nat) (q4 : Nat), w = [(h0, .inr (11, [.ref g2, .ref q1, .ref q2, .int 0, .int 0, .int 0, .int 1, .int 0, .int 0, .ref q3, .int 0, .ref g6, .ref q4, .int 0, .int 0, .int 0])), (h1, .inr (2, [.ref g3, .ref g4, .ref g5, .int 1, .ref g6, .ref g7, .int 0, .ref g8, .int 0, .ref g9, .int 0, .ref g10, .int 0, .ref g11, .ref g12, .ref g13, .int 0])), (q1, .inl (G.2.1 1, 12000, .inl (fun _ => 0))), (q2, .inl (G.2.1 0, 36000, .inl (fun _ => 0))), (q3, .inl (G.2.1 1, 33000, .inl (fun _ => 0))), (q4, .inl (G.2.1 0, 200, .inl (fun _ => 0)))]) := by
  refine zMv.intro (by decide) (Nat.le_of_ble_eq_true rfl) (fun X hC hR => ?_)
  refine z_aload_n hC (pc := 0) 0 dX11_init_0 rfl rfl ?_
  refine z_objInit hC (pc := 1) dX11_init_1 zw576 (Nat.le_of_ble_eq_true rfl) (Nat.le_of_ble_eq_true rfl) ?_
  refine z_aload_n hC (pc := 4) 0 dX11_init_4 rfl rfl ?_
  refine z_sipush hC (pc := 5) (v := 12000) dX11_init_5 (by decide) ?_
  refine z_newa1 hC (pc := 8) (N := 12000) (k := 0) (n := 0) dX11_init_8 (by decide) rfl (Nat.le_of_ble_eq_true rfl) (Nat.le_of_ble_eq_true rfl) (Nat.le_of_ble_eq_true rfl) (fun q1 => ?_)
  refine z_putF hC (pc := 10) zf11 0 1 [(h0, .inr (11, [.null, .ref q1, .null, .int 0, .int 0, .int 0, .int 0, .int 0, .int 0, .null, .int 0, .null, .null, .int 0, .int 0, .int 0])), (h1, .inr (2, [.ref g3, .ref g4, .ref g5, .int 1, .ref g6, .ref g7, .int 0, .ref g8, .int 0, .ref g9, .int 0, .ref g10, .int 0, .ref g11, .ref g12, .ref g13, .int 0])), (q1, .inl (G.2.1 1, 12000, .inl (fun _ => 0)))] dX11_init_10 zw580 rfl rfl rfl rfl rfl (kk := ?_)
  refine z_aload_n hC (pc := 13) 0 dX11_init_13 rfl rfl ?_
  refine z_ldc hC (pc := 14) (v := 36000) dX11_init_14 zw577 ?_
  refine z_newa0 hC (pc := 16) (N := 36000) (k := 1) (n := 12000) dX11_init_16 (by decide) rfl (Nat.le_of_ble_eq_true rfl) (Nat.le_of_ble_eq_true rfl) (Nat.le_of_ble_eq_true rfl) (fun q2 => ?_)
  refine z_putF hC (pc := 18) zf11 0 2 [(h0, .inr (11, [.null, .ref q1, .ref q2, .int 0, .int 0, .int 0, .int 0, .int 0, .int 0, .null, .int 0, .null, .null, .int 0, .int 0, .int 0])), (h1, .inr (2, [.ref g3, .ref g4, .ref g5, .int 1, .ref g6, .ref g7, .int 0, .ref g8, .int 0, .ref g9, .int 0, .ref g10, .int 0, .ref g11, .ref g12, .ref g13, .int 0])), (q1, .inl (G.2.1 1, 12000, .inl (fun _ => 0))), (q2, .inl (G.2.1 0, 36000, .inl (fun _ => 0)))] dX11_init_18 zw582 rfl rfl rfl rfl rfl (kk := ?_)
  refine z_aload_n hC (pc := 21) 0 dX11_init_21 rfl rfl ?_
  refine z_iconst hC (pc := 22) (v := 0) dX11_init_22 (by decide) ?_
  refine z_put hC (pc := 23) zf11 0 3 [(h0, .inr (11, [.null, .ref q1, .ref q2, .int 0, .int 0, .int 0, .int 0, .int 0, .int 0, .null, .int 0, .null, .null, .int 0, .int 0, .int 0])), (h1, .inr (2, [.ref g3, .ref g4, .ref g5, .int 1, .ref g6, .ref g7, .int 0, .ref g8, .int 0, .ref g9, .int 0, .ref g10, .int 0, .ref g11, .ref g12, .ref g13, .int 0])), (q1, .inl (G.2.1 1, 12000, .inl (fun _ => 0))), (q2, .inl (G.2.1 0, 36000, .inl (fun _ => 0)))] dX11_init_23 zw584 rfl rfl rfl rfl rfl (kk := ?_)
  refine z_aload_n hC (pc := 26) 0 dX11_init_26 rfl rfl ?_
  refine z_iconst hC (pc := 27) (v := 0) dX11_init_27 (by decide) ?_
  refine z_put hC (pc := 28) zf11 0 4 [(h0, .inr (11, [.null, .ref q1, .ref q2, .int 0, .int 0, .int 0, .int 0, .int 0, .int 0, .null, .int 0, .null, .null, .int 0, .int 0, .int 0])), (h1, .inr (2, [.ref g3, .ref g4, .ref g5, .int 1, .ref g6, .ref g7, .int 0, .ref g8, .int 0, .ref g9, .int 0, .ref g10, .int 0, .ref g11, .ref g12, .ref g13, .int 0])), (q1, .inl (G.2.1 1, 12000, .inl (fun _ => 0))), (q2, .inl (G.2.1 0, 36000, .inl (fun _ => 0)))] dX11_init_28 zw586 rfl rfl rfl rfl rfl (kk := ?_)
  refine z_aload_n hC (pc := 31) 0 dX11_init_31 rfl rfl ?_
  refine z_iconst hC (pc := 32) (v := 0) dX11_init_32 (by decide) ?_
  refine z_put hC (pc := 33) zf11 0 5 [(h0, .inr (11, [.null, .ref q1, .ref q2, .int 0, .int 0, .int 0, .int 0, .int 0, .int 0, .null, .int 0, .null, .null, .int 0, .int 0, .int 0])), (h1, .inr (2, [.ref g3, .ref g4, .ref g5, .int 1, .ref g6, .ref g7, .int 0, .ref g8, .int 0, .ref g9, .int 0, .ref g10, .int 0, .ref g11, .ref g12, .ref g13, .int 0])), (q1, .inl (G.2.1 1, 12000, .inl (fun _ => 0))), (q2, .inl (G.2.1 0, 36000, .inl (fun _ => 0)))] dX11_init_33 zw587 rfl rfl rfl rfl rfl (kk := ?_)
  refine z_aload_n hC (pc := 36) 0 dX11_init_36 rfl rfl ?_
  refine z_iconst hC (pc := 37) (v := 1) dX11_init_37 (by decide) ?_
  refine z_put hC (pc := 38) zf11 0 6 [(h0, .inr (11, [.null, .ref q1, .ref q2, .int 0, .int 0, .int 0, .int 1, .int 0, .int 0, .null, .int 0, .null, .null, .int 0, .int 0, .int 0])), (h1, .inr (2, [.ref g3, .ref g4, .ref g5, .int 1, .ref g6, .ref g7, .int 0, .ref g8, .int 0, .ref g9, .int 0, .ref g10, .int 0, .ref g11, .ref g12, .ref g13, .int 0])), (q1, .inl (G.2.1 1, 12000, .inl (fun _ => 0))), (q2, .inl (G.2.1 0, 36000, .inl (fun _ => 0)))] dX11_init_38 zw589 rfl rfl rfl rfl rfl (kk := ?_)
  refine z_aload_n hC (pc := 41) 0 dX11_init_41 rfl rfl ?_
  refine z_iconst hC (pc := 42) (v := 0) dX11_init_42 (by decide) ?_
  refine z_put hC (pc := 43) zf11 0 7 [(h0, .inr (11, [.null, .ref q1, .ref q2, .int 0, .int 0, .int 0, .int 1, .int 0, .int 0, .null, .int 0, .null, .null, .int 0, .int 0, .int 0])), (h1, .inr (2, [.ref g3, .ref g4, .ref g5, .int 1, .ref g6, .ref g7, .int 0, .ref g8, .int 0, .ref g9, .int 0, .ref g10, .int 0, .ref g11, .ref g12, .ref g13, .int 0])), (q1, .inl (G.2.1 1, 12000, .inl (fun _ => 0))), (q2, .inl (G.2.1 0, 36000, .inl (fun _ => 0)))] dX11_init_43 zw591 rfl rfl rfl rfl rfl (kk := ?_)
  refine z_aload_n hC (pc := 46) 0 dX11_init_46 rfl rfl ?_
  refine z_iconst hC (pc := 47) (v := 0) dX11_init_47 (by decide) ?_
  refine z_put hC (pc := 48) zf11 0 8 [(h0, .inr (11, [.null, .ref q1, .ref q2, .int 0, .int 0, .int 0, .int 1, .int 0, .int 0, .null, .int 0, .null, .null, .int 0, .int 0, .int 0])), (h1, .inr (2, [.ref g3, .ref g4, .ref g5, .int 1, .ref g6, .ref g7, .int 0, .ref g8, .int 0, .ref g9, .int 0, .ref g10, .int 0, .ref g11, .ref g12, .ref g13, .int 0])), (q1, .inl (G.2.1 1, 12000, .inl (fun _ => 0))), (q2, .inl (G.2.1 0, 36000, .inl (fun _ => 0)))] dX11_init_48 zw593 rfl rfl rfl rfl rfl (kk := ?_)
  refine z_aload_n hC (pc := 51) 0 dX11_init_51 rfl rfl ?_
  refine z_ldc hC (pc := 52) (v := 33000) dX11_init_52 zw578 ?_
  refine z_newa1 hC (pc := 54) (N := 33000) (k := 2) (n := 48000) dX11_init_54 (by decide) rfl (Nat.le_of_ble_eq_true rfl) (Nat.le_of_ble_eq_true rfl) (Nat.le_of_ble_eq_true rfl) (fun q3 => ?_)
  refine z_putF hC (pc := 56) zf11 0 9 [(h0, .inr (11, [.null, .ref q1, .ref q2, .int 0, .int 0, .int 0, .int 1, .int 0, .int 0, .ref q3, .int 0, .null, .null, .int 0, .int 0, .int 0])), (h1, .inr (2, [.ref g3, .ref g4, .ref g5, .int 1, .ref g6, .ref g7, .int 0, .ref g8, .int 0, .ref g9, .int 0, .ref g10, .int 0, .ref g11, .ref g12, .ref g13, .int 0])), (q1, .inl (G.2.1 1, 12000, .inl (fun _ => 0))), (q2, .inl (G.2.1 0, 36000, .inl (fun _ => 0))), (q3, .inl (G.2.1 1, 33000, .inl (fun _ => 0)))] dX11_init_56 zw595 rfl rfl rfl rfl rfl (kk := ?_)
  refine z_aload_n hC (pc := 59) 0 dX11_init_59 rfl rfl ?_
  refine z_iconst hC (pc := 60) (v := 0) dX11_init_60 (by decide) ?_
  refine z_put hC (pc := 61) zf11 0 10 [(h0, .inr (11, [.null, .ref q1, .ref q2, .int 0, .int 0, .int 0, .int 1, .int 0, .int 0, .ref q3, .int 0, .null, .null, .int 0, .int 0, .int 0])), (h1, .inr (2, [.ref g3, .ref g4, .ref g5, .int 1, .ref g6, .ref g7, .int 0, .ref g8, .int 0, .ref g9, .int 0, .ref g10, .int 0, .ref g11, .ref g12, .ref g13, .int 0])), (q1, .inl (G.2.1 1, 12000, .inl (fun _ => 0))), (q2, .inl (G.2.1 0, 36000, .inl (fun _ => 0))), (q3, .inl (G.2.1 1, 33000, .inl (fun _ => 0)))] dX11_init_61 zw597 rfl rfl rfl rfl rfl (kk := ?_)
  refine z_aload_n hC (pc := 64) 0 dX11_init_64 rfl rfl ?_
  refine z_sipush hC (pc := 65) (v := 200) dX11_init_65 (by decide) ?_
  refine z_newa0 hC (pc := 68) (N := 200) (k := 3) (n := 81000) dX11_init_68 (by decide) rfl (Nat.le_of_ble_eq_true rfl) (Nat.le_of_ble_eq_true rfl) (Nat.le_of_ble_eq_true rfl) (fun q4 => ?_)
  refine z_putF hC (pc := 70) zf11 0 12 [(h0, .inr (11, [.null, .ref q1, .ref q2, .int 0, .int 0, .int 0, .int 1, .int 0, .int 0, .ref q3, .int 0, .null, .ref q4, .int 0, .int 0, .int 0])), (h1, .inr (2, [.ref g3, .ref g4, .ref g5, .int 1, .ref g6, .ref g7, .int 0, .ref g8, .int 0, .ref g9, .int 0, .ref g10, .int 0, .ref g11, .ref g12, .ref g13, .int 0])), (q1, .inl (G.2.1 1, 12000, .inl (fun _ => 0))), (q2, .inl (G.2.1 0, 36000, .inl (fun _ => 0))), (q3, .inl (G.2.1 1, 33000, .inl (fun _ => 0))), (q4, .inl (G.2.1 0, 200, .inl (fun _ => 0)))] dX11_init_70 zw600 rfl rfl rfl rfl rfl (kk := ?_)
  refine z_aload_n hC (pc := 73) 0 dX11_init_73 rfl rfl ?_
  refine z_iconst hC (pc := 74) (v := 0) dX11_init_74 (by decide) ?_
  refine z_put hC (pc := 75) zf11 0 13 [(h0, .inr (11, [.null, .ref q1, .ref q2, .int 0, .int 0, .int 0, .int 1, .int 0, .int 0, .ref q3, .int 0, .null, .ref q4, .int 0, .int 0, .int 0])), (h1, .inr (2, [.ref g3, .ref g4, .ref g5, .int 1, .ref g6, .ref g7, .int 0, .ref g8, .int 0, .ref g9, .int 0, .ref g10, .int 0, .ref g11, .ref g12, .ref g13, .int 0])), (q1, .inl (G.2.1 1, 12000, .inl (fun _ => 0))), (q2, .inl (G.2.1 0, 36000, .inl (fun _ => 0))), (q3, .inl (G.2.1 1, 33000, .inl (fun _ => 0))), (q4, .inl (G.2.1 0, 200, .inl (fun _ => 0)))] dX11_init_75 zw601 rfl rfl rfl rfl rfl (kk := ?_)
  refine z_aload_n hC (pc := 78) 0 dX11_init_78 rfl rfl ?_
  refine z_iconst hC (pc := 79) (v := 0) dX11_init_79 (by decide) ?_
  refine z_put hC (pc := 80) zf11 0 14 [(h0, .inr (11, [.null, .ref q1, .ref q2, .int 0, .int 0, .int 0, .int 1, .int 0, .int 0, .ref q3, .int 0, .null, .ref q4, .int 0, .int 0, .int 0])), (h1, .inr (2, [.ref g3, .ref g4, .ref g5, .int 1, .ref g6, .ref g7, .int 0, .ref g8, .int 0, .ref g9, .int 0, .ref g10, .int 0, .ref g11, .ref g12, .ref g13, .int 0])), (q1, .inl (G.2.1 1, 12000, .inl (fun _ => 0))), (q2, .inl (G.2.1 0, 36000, .inl (fun _ => 0))), (q3, .inl (G.2.1 1, 33000, .inl (fun _ => 0))), (q4, .inl (G.2.1 0, 200, .inl (fun _ => 0)))] dX11_init_80 zw603 rfl rfl rfl rfl rfl (kk := ?_)
  refine z_aload_n hC (pc := 83) 0 dX11_init_83 rfl rfl ?_
  refine z_iconst hC (pc := 84) (v := 0) dX11_init_84 (by decide) ?_
  refine z_put hC (pc := 85) zf11 0 15 [(h0, .inr (11, [.null, .ref q1, .ref q2, .int 0, .int 0, .int 0, .int 1, .int 0, .int 0, .ref q3, .int 0, .null, .ref q4, .int 0, .int 0, .int 0])), (h1, .inr (2, [.ref g3, .ref g4, .ref g5, .int 1, .ref g6, .ref g7, .int 0, .ref g8, .int 0, .ref g9, .int 0, .ref g10, .int 0, .ref g11, .ref g12, .ref g13, .int 0])), (q1, .inl (G.2.1 1, 12000, .inl (fun _ => 0))), (q2, .inl (G.2.1 0, 36000, .inl (fun _ => 0))), (q3, .inl (G.2.1 1, 33000, .inl (fun _ => 0))), (q4, .inl (G.2.1 0, 200, .inl (fun _ => 0)))] dX11_init_85 zw605 rfl rfl rfl rfl rfl (kk := ?_)
  refine z_aload_n hC (pc := 88) 0 dX11_init_88 rfl rfl ?_
  refine z_aload_n hC (pc := 89) 1 dX11_init_89 rfl rfl ?_
  refine z_putF hC (pc := 90) zf11 0 0 [(h0, .inr (11, [.ref g2, .ref q1, .ref q2, .int 0, .int 0, .int 0, .int 1, .int 0, .int 0, .ref q3, .int 0, .null, .ref q4, .int 0, .int 0, .int 0])), (h1, .inr (2, [.ref g3, .ref g4, .ref g5, .int 1, .ref g6, .ref g7, .int 0, .ref g8, .int 0, .ref g9, .int 0, .ref g10, .int 0, .ref g11, .ref g12, .ref g13, .int 0])), (q1, .inl (G.2.1 1, 12000, .inl (fun _ => 0))), (q2, .inl (G.2.1 0, 36000, .inl (fun _ => 0))), (q3, .inl (G.2.1 1, 33000, .inl (fun _ => 0))), (q4, .inl (G.2.1 0, 200, .inl (fun _ => 0)))] dX11_init_90 zw579 rfl rfl rfl rfl rfl (kk := ?_)
  refine z_aload_n hC (pc := 93) 0 dX11_init_93 rfl rfl ?_
  refine z_aload_n hC (pc := 94) 2 dX11_init_94 rfl rfl ?_
  refine z_get hC (pc := 95) zf2 1 4 dX11_init_95 zw248 rfl rfl (kk := ?_)
  refine z_put hC (pc := 98) zf11 0 11 [(h0, .inr (11, [.ref g2, .ref q1, .ref q2, .int 0, .int 0, .int 0, .int 1, .int 0, .int 0, .ref q3, .int 0, .ref g6, .ref q4, .int 0, .int 0, .int 0])), (h1, .inr (2, [.ref g3, .ref g4, .ref g5, .int 1, .ref g6, .ref g7, .int 0, .ref g8, .int 0, .ref g9, .int 0, .ref g10, .int 0, .ref g11, .ref g12, .ref g13, .int 0])), (q1, .inl (G.2.1 1, 12000, .inl (fun _ => 0))), (q2, .inl (G.2.1 0, 36000, .inl (fun _ => 0))), (q3, .inl (G.2.1 1, 33000, .inl (fun _ => 0))), (q4, .inl (G.2.1 0, 200, .inl (fun _ => 0)))] dX11_init_98 zw599 rfl rfl rfl rfl rfl (kk := ?_)
  exact hR _ _ _ _ _ dX11_init_101 (Nat.le_of_ble_eq_true rfl) (Nat.le_of_ble_eq_true rfl) ⟨q1, q2, q3, q4, rfl⟩
