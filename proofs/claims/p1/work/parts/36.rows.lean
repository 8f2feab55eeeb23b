set_option maxRecDepth 100000 in
theorem pwidth2_m (l : Launch) (G : zG) (h0 : Nat) (x1 : Int32) (g2 : Nat) (g3 : Nat) (g4 : Nat) (g5 : Nat) (g6 : Nat) (g7 : Nat) (g8 : Nat) (g9 : Nat) (g10 : Nat) (g11 : Nat) (g12 : Nat) (g13 : Nat) (g14 : Nat) (g15 : Nat) (g16 : Nat) (g17 : Nat) (g18 : Nat) (g19 : Nat) (g20 : Nat) (g21 : Nat) (g22 : Nat) (g23 : Nat) (g24 : Nat) (g25 : Nat) (g26 : Nat) (g27 : Nat) (g28 : Nat) (g29 : Nat) (g30 : Nat) (g31 : Nat) (g32 : Nat) (g33 : Nat) (g34 : Nat) (g35 : Nat) (g36 : Nat) (g37 : Nat) (g38 : Nat) (g39 : Nat) (g40 : Nat) (g41 : Nat) (g42 : Nat) (g43 : Nat) (g44 : Nat) (g45 : Nat) (g46 : Nat) (g47 : Nat) (g48 : Nat) (g49 : Nat) (g50 : Nat) (g51 : Nat) (g52 : Nat) (g53 : Nat) (g54 : Nat) (g55 : Nat) (g56 : Nat) (g57 : Nat) (g58 : Nat) (g59 : Nat) (g60 : Nat) (g61 : Nat) (g62 : Nat) (g63 : Nat) (g64 : Nat) (g65 : Nat) (g66 : Nat) (g67 : Nat) (g68 : Nat) (g69 : Nat) (g70 : Nat) (g71 : Nat) (g72 : Nat) (g73 : Nat) (g74 : Nat) (hy1 : ¬ x1 < 0) (hy2 : ¬ 1000 < x1) : zMi l G yX14_width cX14_width 2 .boolean 0 0 0 0 [.ref h0, .int x1] [(h0, .inr (14, [.int 0, .ref g2, .ref g3, .int 0, .ref g4, .ref g5, .ref g6, .null, .null, .null, .int 0, .int 0, .int 0, .int 0, .int 0, .null, .int 0, .int 0, .int 0, .int 0, .ref g7, .int 0, .int 0, .int 0, .int 0, .int 0, .ref g8, .ref g9, .int 0, .int 0, .int 0, .int 0, .int (-1), .int (-1), .ref g10, .ref g11, .ref g12, .ref g13, .int 0, .int 0, .ref g14, .int 0, .int 0, .int 0, .int 0, .int 0, .ref g15, .ref g16, .ref g17, .ref g18, .ref g19, .ref g20, .ref g21, .ref g22, .ref g23, .ref g24, .ref g25, .ref g26, .ref g27, .ref g28, .int 0, .ref g29, .ref g30, .ref g31, .ref g32, .int 0, .int 0, .int 0, .int 0, .ref g33, .int 0, .int 0, .int 0, .int 0, .int 0, .ref g34, .ref g35, .ref g36, .ref g37, .ref g38, .int 0, .int 0, .int 0, .int 0, .ref g39, .ref g40, .ref g41, .ref g42, .int 0, .ref g43, .ref g44, .ref g45, .int 0, .ref g46, .int 0, .ref g47, .int 0, .int 0, .int 0, .int 0, .int 0, .int 0, .ref g48, .int 0, .int 0, .ref g49, .ref g50, .ref g51, .ref g52, .ref g53, .ref g54, .ref g55, .int 0, .int 0, .ref g56, .ref g57, .ref g58, .ref g59, .int 0, .int 0, .ref g60, .ref g61, .int 0, .int 0, .ref g62, .ref g63, .ref g64, .ref g65, .ref g66, .ref g67, .ref g68, .ref g69, .ref g70, .ref g71, .ref g72, .int 0, .ref g73, .int 0, .ref g74]))] (fun r w => r = 1) := by
  refine zMi.intro (by decide) (Nat.le_of_ble_eq_true rfl) (fun X hC hR => ?_)
  refine z_aload_n hC (pc := 0) 0 dX14_width_0 rfl rfl ?_
  refine z_iconst hC (pc := 1) (v := 0) dX14_width_1 (by decide) ?_
  refine z_put hC (pc := 2) zf14 0 0 [(h0, .inr (14, [.int 0, .ref g2, .ref g3, .int 0, .ref g4, .ref g5, .ref g6, .null, .null, .null, .int 0, .int 0, .int 0, .int 0, .int 0, .null, .int 0, .int 0, .int 0, .int 0, .ref g7, .int 0, .int 0, .int 0, .int 0, .int 0, .ref g8, .ref g9, .int 0, .int 0, .int 0, .int 0, .int (-1), .int (-1), .ref g10, .ref g11, .ref g12, .ref g13, .int 0, .int 0, .ref g14, .int 0, .int 0, .int 0, .int 0, .int 0, .ref g15, .ref g16, .ref g17, .ref g18, .ref g19, .ref g20, .ref g21, .ref g22, .ref g23, .ref g24, .ref g25, .ref g26, .ref g27, .ref g28, .int 0, .ref g29, .ref g30, .ref g31, .ref g32, .int 0, .int 0, .int 0, .int 0, .ref g33, .int 0, .int 0, .int 0, .int 0, .int 0, .ref g34, .ref g35, .ref g36, .ref g37, .ref g38, .int 0, .int 0, .int 0, .int 0, .ref g39, .ref g40, .ref g41, .ref g42, .int 0, .ref g43, .ref g44, .ref g45, .int 0, .ref g46, .int 0, .ref g47, .int 0, .int 0, .int 0, .int 0, .int 0, .int 0, .ref g48, .int 0, .int 0, .ref g49, .ref g50, .ref g51, .ref g52, .ref g53, .ref g54, .ref g55, .int 0, .int 0, .ref g56, .ref g57, .ref g58, .ref g59, .int 0, .int 0, .ref g60, .ref g61, .int 0, .int 0, .ref g62, .ref g63, .ref g64, .ref g65, .ref g66, .ref g67, .ref g68, .ref g69, .ref g70, .ref g71, .ref g72, .int 0, .ref g73, .int 0, .ref g74]))] dX14_width_2 zw2468 rfl rfl rfl rfl rfl (kk := ?_)
  refine z_iload_n hC (pc := 5) 1 dX14_width_5 rfl rfl ?_
  refine z_if_ltF hC (pc := 6) 16 dX14_width_6 (by decide) hy1 ?_
  refine z_iload_n hC (pc := 9) 1 dX14_width_9 rfl rfl ?_
  refine z_sipush hC (pc := 10) (v := 1000) dX14_width_10 (by decide) ?_
  refine z_icmp_leT hC (pc := 13) 18 dX14_width_13 (by decide) (by simp only [Int32.lt_iff_toInt_lt, Int32.le_iff_toInt_le, ← Int32.toInt_inj, Int32.reduceToInt, Int32.zero_add] at hy1 hy2 ⊢; omega) ?_
  refine z_aload_n hC (pc := 18) 0 dX14_width_18 rfl rfl ?_
  refine z_iload_n hC (pc := 19) 1 dX14_width_19 rfl rfl ?_
  refine z_put hC (pc := 20) zf14 0 65 [(h0, .inr (14, [.int 0, .ref g2, .ref g3, .int 0, .ref g4, .ref g5, .ref g6, .null, .null, .null, .int 0, .int 0, .int 0, .int 0, .int 0, .null, .int 0, .int 0, .int 0, .int 0, .ref g7, .int 0, .int 0, .int 0, .int 0, .int 0, .ref g8, .ref g9, .int 0, .int 0, .int 0, .int 0, .int (-1), .int (-1), .ref g10, .ref g11, .ref g12, .ref g13, .int 0, .int 0, .ref g14, .int 0, .int 0, .int 0, .int 0, .int 0, .ref g15, .ref g16, .ref g17, .ref g18, .ref g19, .ref g20, .ref g21, .ref g22, .ref g23, .ref g24, .ref g25, .ref g26, .ref g27, .ref g28, .int 0, .ref g29, .ref g30, .ref g31, .ref g32, .int x1, .int 0, .int 0, .int 0, .ref g33, .int 0, .int 0, .int 0, .int 0, .int 0, .ref g34, .ref g35, .ref g36, .ref g37, .ref g38, .int 0, .int 0, .int 0, .int 0, .ref g39, .ref g40, .ref g41, .ref g42, .int 0, .ref g43, .ref g44, .ref g45, .int 0, .ref g46, .int 0, .ref g47, .int 0, .int 0, .int 0, .int 0, .int 0, .int 0, .ref g48, .int 0, .int 0, .ref g49, .ref g50, .ref g51, .ref g52, .ref g53, .ref g54, .ref g55, .int 0, .int 0, .ref g56, .ref g57, .ref g58, .ref g59, .int 0, .int 0, .ref g60, .ref g61, .int 0, .int 0, .ref g62, .ref g63, .ref g64, .ref g65, .ref g66, .ref g67, .ref g68, .ref g69, .ref g70, .ref g71, .ref g72, .int 0, .ref g73, .int 0, .ref g74]))] dX14_width_20 zw2532 rfl rfl rfl rfl rfl (kk := ?_)
  refine z_iconst hC (pc := 23) (v := 1) dX14_width_23 (by decide) ?_
  exact hR _ _ _ _ _ _ dX14_width_24 rfl (Nat.le_of_ble_eq_true rfl) (Nat.le_of_ble_eq_true rfl) rfl
set_option maxRecDepth 100000 in
theorem pbyteOf_c (l : Launch) (G : zG) (h0 : Nat) (x1 : Int32) (g2 : Nat) (g3 : Nat) (g4 : Nat) (g5 : Nat) (g6 : Nat) (g7 : Nat) (g8 : Nat) (g9 : Nat) (g10 : Nat) (g11 : Nat) (g12 : Nat) : zMi l G yX12_byteOf cX12_byteOf 2 .int 0 0 0 0 [.ref h0, .int x1] [(h0, .inr (12, [.ref g2, .ref g3, .int 0, .ref g4, .ref g5, .ref g6, .ref g7, .ref g8, .ref g9, .ref g10, .ref g11, .ref g12, .int 0, .int 0, .int (-1), .int (-1), .int 0, .int 0, .int 0]))] (fun r w => r = (-1)) := by
  refine zMi.intro (by decide) (Nat.le_of_ble_eq_true rfl) (fun X hC hR => ?_)
  refine z_aload_n hC (pc := 0) 0 dX12_byteOf_0 rfl rfl ?_
  refine z_get hC (pc := 1) zf12 0 17 dX12_byteOf_1 zw725 rfl rfl (kk := ?_)
  refine z_if_eqT hC (pc := 4) 19 dX12_byteOf_4 (by decide) (by decide) ?_
  refine z_iconst hC (pc := 19) (v := (-1)) dX12_byteOf_19 (by decide) ?_
  refine z_goto hC (pc := 20) 37 dX12_byteOf_20 (by decide) ?_
  exact hR _ _ _ _ _ _ dX12_byteOf_37 rfl (Nat.le_of_ble_eq_true rfl) (Nat.le_of_ble_eq_true rfl) rfl
set_option maxRecDepth 100000 in
theorem pbyteOf_m (l : Launch) (G : zG) (h0 : Nat) (x1 : Int32) (g2 : Nat) (g3 : Nat) (g4 : Nat) (g5 : Nat) (g6 : Nat) (g7 : Nat) (g8 : Nat) (g9 : Nat) (g10 : Nat) (g11 : Nat) (g12 : Nat) (g13 : Nat) (g14 : Nat) (g15 : Nat) (g16 : Nat) (g17 : Nat) (g18 : Nat) (g19 : Nat) (g20 : Nat) (g21 : Nat) (g22 : Nat) (g23 : Nat) (g24 : Nat) (g25 : Nat) (g26 : Nat) (g27 : Nat) (g28 : Nat) (g29 : Nat) (g30 : Nat) (g31 : Nat) (g32 : Nat) (g33 : Nat) (g34 : Nat) (g35 : Nat) (g36 : Nat) (g37 : Nat) (g38 : Nat) (g39 : Nat) (g40 : Nat) (g41 : Nat) (g42 : Nat) (g43 : Nat) (g44 : Nat) (g45 : Nat) (g46 : Nat) (g47 : Nat) (g48 : Nat) (g49 : Nat) (g50 : Nat) (g51 : Nat) (g52 : Nat) (g53 : Nat) (g54 : Nat) (g55 : Nat) (g56 : Nat) (g57 : Nat) (g58 : Nat) (g59 : Nat) (g60 : Nat) (g61 : Nat) (g62 : Nat) (g63 : Nat) (g64 : Nat) (g65 : Nat) (g66 : Nat) (g67 : Nat) (g68 : Nat) (g69 : Nat) (g70 : Nat) (g71 : Nat) (g72 : Nat) (g73 : Nat) (g74 : Nat) : zMi l G yX14_byteOf cX14_byteOf 2 .int 0 0 0 0 [.ref h0, .int x1] [(h0, .inr (14, [.int 0, .ref g2, .ref g3, .int 0, .ref g4, .ref g5, .ref g6, .null, .null, .null, .int 0, .int 0, .int 0, .int 0, .int 0, .null, .int 0, .int 0, .int 0, .int 0, .ref g7, .int 0, .int 0, .int 0, .int 0, .int 0, .ref g8, .ref g9, .int 0, .int 0, .int 0, .int 0, .int (-1), .int (-1), .ref g10, .ref g11, .ref g12, .ref g13, .int 0, .int 0, .ref g14, .int 0, .int 0, .int 0, .int 0, .int 0, .ref g15, .ref g16, .ref g17, .ref g18, .ref g19, .ref g20, .ref g21, .ref g22, .ref g23, .ref g24, .ref g25, .ref g26, .ref g27, .ref g28, .int 0, .ref g29, .ref g30, .ref g31, .ref g32, .int 0, .int 0, .int 0, .int 0, .ref g33, .int 0, .int 0, .int 0, .int 0, .int 0, .ref g34, .ref g35, .ref g36, .ref g37, .ref g38, .int 0, .int 0, .int 0, .int 0, .ref g39, .ref g40, .ref g41, .ref g42, .int 0, .ref g43, .ref g44, .ref g45, .int 0, .ref g46, .int 0, .ref g47, .int 0, .int 0, .int 0, .int 0, .int 0, .int 0, .ref g48, .int 0, .int 0, .ref g49, .ref g50, .ref g51, .ref g52, .ref g53, .ref g54, .ref g55, .int 0, .int 0, .ref g56, .ref g57, .ref g58, .ref g59, .int 0, .int 0, .ref g60, .ref g61, .int 0, .int 0, .ref g62, .ref g63, .ref g64, .ref g65, .ref g66, .ref g67, .ref g68, .ref g69, .ref g70, .ref g71, .ref g72, .int 0, .ref g73, .int 0, .ref g74]))] (fun r w => r = (-1)) := by
  refine zMi.intro (by decide) (Nat.le_of_ble_eq_true rfl) (fun X hC hR => ?_)
  refine z_aload_n hC (pc := 0) 0 dX14_byteOf_0 rfl rfl ?_
  refine z_iconst hC (pc := 1) (v := 0) dX14_byteOf_1 (by decide) ?_
  refine z_put hC (pc := 2) zf14 0 0 [(h0, .inr (14, [.int 0, .ref g2, .ref g3, .int 0, .ref g4, .ref g5, .ref g6, .null, .null, .null, .int 0, .int 0, .int 0, .int 0, .int 0, .null, .int 0, .int 0, .int 0, .int 0, .ref g7, .int 0, .int 0, .int 0, .int 0, .int 0, .ref g8, .ref g9, .int 0, .int 0, .int 0, .int 0, .int (-1), .int (-1), .ref g10, .ref g11, .ref g12, .ref g13, .int 0, .int 0, .ref g14, .int 0, .int 0, .int 0, .int 0, .int 0, .ref g15, .ref g16, .ref g17, .ref g18, .ref g19, .ref g20, .ref g21, .ref g22, .ref g23, .ref g24, .ref g25, .ref g26, .ref g27, .ref g28, .int 0, .ref g29, .ref g30, .ref g31, .ref g32, .int 0, .int 0, .int 0, .int 0, .ref g33, .int 0, .int 0, .int 0, .int 0, .int 0, .ref g34, .ref g35, .ref g36, .ref g37, .ref g38, .int 0, .int 0, .int 0, .int 0, .ref g39, .ref g40, .ref g41, .ref g42, .int 0, .ref g43, .ref g44, .ref g45, .int 0, .ref g46, .int 0, .ref g47, .int 0, .int 0, .int 0, .int 0, .int 0, .int 0, .ref g48, .int 0, .int 0, .ref g49, .ref g50, .ref g51, .ref g52, .ref g53, .ref g54, .ref g55, .int 0, .int 0, .ref g56, .ref g57, .ref g58, .ref g59, .int 0, .int 0, .ref g60, .ref g61, .int 0, .int 0, .ref g62, .ref g63, .ref g64, .ref g65, .ref g66, .ref g67, .ref g68, .ref g69, .ref g70, .ref g71, .ref g72, .int 0, .ref g73, .int 0, .ref g74]))] dX14_byteOf_2 zw2468 rfl rfl rfl rfl rfl (kk := ?_)
  refine z_iload_n hC (pc := 5) 1 dX14_byteOf_5 rfl rfl ?_
  refine z_if_lt hC (pc := 6) 30 dX14_byteOf_6 (by decide) (fun c1 => ?_) (fun c1 => ?_)
  · refine z_iconst hC (pc := 30) (v := (-1)) dX14_byteOf_30 (by decide) ?_
    exact hR _ _ _ _ _ _ dX14_byteOf_31 rfl (Nat.le_of_ble_eq_true rfl) (Nat.le_of_ble_eq_true rfl) rfl
  · refine z_iload_n hC (pc := 9) 1 dX14_byteOf_9 rfl rfl ?_
    refine z_aload_n hC (pc := 10) 0 dX14_byteOf_10 rfl rfl ?_
    refine z_get hC (pc := 11) zf14 0 70 dX14_byteOf_11 zw2537 rfl rfl (kk := ?_)
    refine z_icmp_geT hC (pc := 14) 30 dX14_byteOf_14 (by decide) (by simp only [Int32.lt_iff_toInt_lt, Int32.le_iff_toInt_le, ← Int32.toInt_inj, Int32.reduceToInt, Int32.zero_add] at c1 ⊢; omega) ?_
    refine z_iconst hC (pc := 30) (v := (-1)) dX14_byteOf_30 (by decide) ?_
    exact hR _ _ _ _ _ _ dX14_byteOf_31 rfl (Nat.le_of_ble_eq_true rfl) (Nat.le_of_ble_eq_true rfl) rfl
set_option maxRecDepth 100000 in
theorem kX12_told_76 (l : Launch) (G : zG) (h0 : Nat) (g1 : Nat) (g2 : Nat) (g3 : Nat) (g4 : Nat) (g5 : Nat) (g6 : Nat) (g7 : Nat) (g8 : Nat) (g9 : Nat) (g10 : Nat) (g11 : Nat) : zMi l G yX12_told cX12_told 2 .int 0 0 0 0 [.ref h0, .int 0] [(h0, .inr (12, [.ref g1, .ref g2, .int 0, .ref g3, .ref g4, .ref g5, .ref g6, .ref g7, .ref g8, .ref g9, .ref g10, .ref g11, .int 0, .int 0, .int (-1), .int (-1), .int 0, .int 0, .int 0]))] (fun r w => r = 0 ∧ w = [(h0, .inr (12, [.ref g1, .ref g2, .int 0, .ref g3, .ref g4, .ref g5, .ref g6, .ref g7, .ref g8, .ref g9, .ref g10, .ref g11, .int 0, .int 0, .int (-1), .int (-1), .int 0, .int 0, .int 0]))]) := by
  refine zMi.intro (by decide) (Nat.le_of_ble_eq_true rfl) (fun X hC hR => ?_)
  refine z_aload_n hC (pc := 0) 0 dX12_told_0 rfl rfl ?_
  refine z_get hC (pc := 1) zf12 0 17 dX12_told_1 zw725 rfl rfl (kk := ?_)
  refine z_if_neF hC (pc := 4) 9 dX12_told_4 (by decide) (by decide) ?_
  refine z_iconst hC (pc := 7) (v := 0) dX12_told_7 (by decide) ?_
  exact hR _ _ _ _ _ _ dX12_told_8 rfl (Nat.le_of_ble_eq_true rfl) (Nat.le_of_ble_eq_true rfl) ⟨rfl, rfl⟩
set_option maxRecDepth 100000 in
theorem perror_c (l : Launch) (G : zG) (h0 : Nat) (x1 : Int32) (x2 : Int32) (g3 : Nat) (g4 : Nat) (g5 : Nat) (g6 : Nat) (g7 : Nat) (g8 : Nat) (g9 : Nat) (g10 : Nat) (g11 : Nat) (g12 : Nat) (g13 : Nat) : zMi l G yX12_error cX12_error 3 .int 1 21 0 0 [.ref h0, .int x1, .int x2] [(h0, .inr (12, [.ref g3, .ref g4, .int 0, .ref g5, .ref g6, .ref g7, .ref g8, .ref g9, .ref g10, .ref g11, .ref g12, .ref g13, .int 0, .int 0, .int (-1), .int (-1), .int 0, .int 0, .int 0]))] (fun r w => r = (-1)) := by
  refine zMi.intro (by decide) (Nat.le_of_ble_eq_true rfl) (fun X hC hR => ?_)
  refine z_iload_n hC (pc := 0) 1 dX12_error_0 rfl rfl ?_
  refine z_if_lt hC (pc := 1) 29 dX12_error_1 (by decide) (fun c1 => ?_) (fun c1 => ?_)
  · refine z_iconst hC (pc := 29) (v := (-1)) dX12_error_29 (by decide) ?_
    exact hR _ _ _ _ _ _ dX12_error_30 rfl (Nat.le_of_ble_eq_true rfl) (Nat.le_of_ble_eq_true rfl) rfl
  · refine z_iload_n hC (pc := 4) 1 dX12_error_4 rfl rfl ?_
    refine z_sipush hC (pc := 5) (v := 400) dX12_error_5 (by decide) ?_
    refine z_icmp_ge hC (pc := 8) 29 dX12_error_8 (by decide) (fun c2 => ?_) (fun c2 => ?_)
    · refine z_iconst hC (pc := 29) (v := (-1)) dX12_error_29 (by decide) ?_
      exact hR _ _ _ _ _ _ dX12_error_30 rfl (Nat.le_of_ble_eq_true rfl) (Nat.le_of_ble_eq_true rfl) rfl
    · refine z_iload_n hC (pc := 11) 2 dX12_error_11 rfl rfl ?_
      refine z_if_lt hC (pc := 12) 29 dX12_error_12 (by decide) (fun c3 => ?_) (fun c3 => ?_)
      · refine z_iconst hC (pc := 29) (v := (-1)) dX12_error_29 (by decide) ?_
        exact hR _ _ _ _ _ _ dX12_error_30 rfl (Nat.le_of_ble_eq_true rfl) (Nat.le_of_ble_eq_true rfl) rfl
      · refine z_iload_n hC (pc := 15) 2 dX12_error_15 rfl rfl ?_
        refine z_iconst hC (pc := 16) (v := 2) dX12_error_16 (by decide) ?_
        refine z_icmp_gt hC (pc := 17) 29 dX12_error_17 (by decide) (fun c4 => ?_) (fun c4 => ?_)
        · refine z_iconst hC (pc := 29) (v := (-1)) dX12_error_29 (by decide) ?_
          exact hR _ _ _ _ _ _ dX12_error_30 rfl (Nat.le_of_ble_eq_true rfl) (Nat.le_of_ble_eq_true rfl) rfl
        · refine z_iload_n hC (pc := 20) 1 dX12_error_20 rfl rfl ?_
          refine z_aload_n hC (pc := 21) 0 dX12_error_21 rfl rfl ?_
          refine z_iconst hC (pc := 22) (v := 0) dX12_error_22 (by decide) ?_
          refine z_callVi hC (pc := 23) (k := 0) (n := 0) (As := [.int 0]) (wr := []) (kX12_told_76 l G h0 g3 g4 g5 g6 g7 g8 g9 g10 g11 g12 g13) dmX12_told zf12 0 rfl [0] [] rfl rfl rfl dX12_error_23 zw911 rfl rfl (Nat.le_of_ble_eq_true rfl) (Nat.le_of_ble_eq_true rfl) (Nat.le_of_ble_eq_true rfl) (Nat.le_of_ble_eq_true rfl) (Nat.le_of_ble_eq_true rfl) (fun r w hp => ?_)
          obtain ⟨rfl, rfl⟩ := hp
          refine z_icmp_ltF hC (pc := 26) 31 dX12_error_26 (by decide) c1 ?_
          refine z_iconst hC (pc := 29) (v := (-1)) dX12_error_29 (by decide) ?_
          exact hR _ _ _ _ _ _ dX12_error_30 rfl (Nat.le_of_ble_eq_true rfl) (Nat.le_of_ble_eq_true rfl) rfl
set_option maxRecDepth 100000 in
theorem perror_m (l : Launch) (G : zG) (h0 : Nat) (x1 : Int32) (x2 : Int32) (g3 : Nat) (g4 : Nat) (g5 : Nat) (g6 : Nat) (g7 : Nat) (g8 : Nat) (g9 : Nat) (g10 : Nat) (g11 : Nat) (g12 : Nat) (g13 : Nat) (g14 : Nat) (g15 : Nat) (g16 : Nat) (g17 : Nat) (g18 : Nat) (g19 : Nat) (g20 : Nat) (g21 : Nat) (g22 : Nat) (g23 : Nat) (g24 : Nat) (g25 : Nat) (g26 : Nat) (g27 : Nat) (g28 : Nat) (g29 : Nat) (g30 : Nat) (g31 : Nat) (g32 : Nat) (g33 : Nat) (g34 : Nat) (g35 : Nat) (g36 : Nat) (g37 : Nat) (g38 : Nat) (g39 : Nat) (g40 : Nat) (g41 : Nat) (g42 : Nat) (g43 : Nat) (g44 : Nat) (g45 : Nat) (g46 : Nat) (g47 : Nat) (g48 : Nat) (g49 : Nat) (g50 : Nat) (g51 : Nat) (g52 : Nat) (g53 : Nat) (g54 : Nat) (g55 : Nat) (g56 : Nat) (g57 : Nat) (g58 : Nat) (g59 : Nat) (g60 : Nat) (g61 : Nat) (g62 : Nat) (g63 : Nat) (g64 : Nat) (g65 : Nat) (g66 : Nat) (g67 : Nat) (g68 : Nat) (g69 : Nat) (g70 : Nat) (g71 : Nat) (g72 : Nat) (g73 : Nat) (g74 : Nat) (g75 : Nat) : zMi l G yX14_error cX14_error 3 .int 0 0 0 0 [.ref h0, .int x1, .int x2] [(h0, .inr (14, [.int 0, .ref g3, .ref g4, .int 0, .ref g5, .ref g6, .ref g7, .null, .null, .null, .int 0, .int 0, .int 0, .int 0, .int 0, .null, .int 0, .int 0, .int 0, .int 0, .ref g8, .int 0, .int 0, .int 0, .int 0, .int 0, .ref g9, .ref g10, .int 0, .int 0, .int 0, .int 0, .int (-1), .int (-1), .ref g11, .ref g12, .ref g13, .ref g14, .int 0, .int 0, .ref g15, .int 0, .int 0, .int 0, .int 0, .int 0, .ref g16, .ref g17, .ref g18, .ref g19, .ref g20, .ref g21, .ref g22, .ref g23, .ref g24, .ref g25, .ref g26, .ref g27, .ref g28, .ref g29, .int 0, .ref g30, .ref g31, .ref g32, .ref g33, .int 0, .int 0, .int 0, .int 0, .ref g34, .int 0, .int 0, .int 0, .int 0, .int 0, .ref g35, .ref g36, .ref g37, .ref g38, .ref g39, .int 0, .int 0, .int 0, .int 0, .ref g40, .ref g41, .ref g42, .ref g43, .int 0, .ref g44, .ref g45, .ref g46, .int 0, .ref g47, .int 0, .ref g48, .int 0, .int 0, .int 0, .int 0, .int 0, .int 0, .ref g49, .int 0, .int 0, .ref g50, .ref g51, .ref g52, .ref g53, .ref g54, .ref g55, .ref g56, .int 0, .int 0, .ref g57, .ref g58, .ref g59, .ref g60, .int 0, .int 0, .ref g61, .ref g62, .int 0, .int 0, .ref g63, .ref g64, .ref g65, .ref g66, .ref g67, .ref g68, .ref g69, .ref g70, .ref g71, .ref g72, .ref g73, .int 0, .ref g74, .int 0, .ref g75]))] (fun r w => r = (-1)) := by
  refine zMi.intro (by decide) (Nat.le_of_ble_eq_true rfl) (fun X hC hR => ?_)
  refine z_aload_n hC (pc := 0) 0 dX14_error_0 rfl rfl ?_
  refine z_iconst hC (pc := 1) (v := 0) dX14_error_1 (by decide) ?_
  refine z_put hC (pc := 2) zf14 0 0 [(h0, .inr (14, [.int 0, .ref g3, .ref g4, .int 0, .ref g5, .ref g6, .ref g7, .null, .null, .null, .int 0, .int 0, .int 0, .int 0, .int 0, .null, .int 0, .int 0, .int 0, .int 0, .ref g8, .int 0, .int 0, .int 0, .int 0, .int 0, .ref g9, .ref g10, .int 0, .int 0, .int 0, .int 0, .int (-1), .int (-1), .ref g11, .ref g12, .ref g13, .ref g14, .int 0, .int 0, .ref g15, .int 0, .int 0, .int 0, .int 0, .int 0, .ref g16, .ref g17, .ref g18, .ref g19, .ref g20, .ref g21, .ref g22, .ref g23, .ref g24, .ref g25, .ref g26, .ref g27, .ref g28, .ref g29, .int 0, .ref g30, .ref g31, .ref g32, .ref g33, .int 0, .int 0, .int 0, .int 0, .ref g34, .int 0, .int 0, .int 0, .int 0, .int 0, .ref g35, .ref g36, .ref g37, .ref g38, .ref g39, .int 0, .int 0, .int 0, .int 0, .ref g40, .ref g41, .ref g42, .ref g43, .int 0, .ref g44, .ref g45, .ref g46, .int 0, .ref g47, .int 0, .ref g48, .int 0, .int 0, .int 0, .int 0, .int 0, .int 0, .ref g49, .int 0, .int 0, .ref g50, .ref g51, .ref g52, .ref g53, .ref g54, .ref g55, .ref g56, .int 0, .int 0, .ref g57, .ref g58, .ref g59, .ref g60, .int 0, .int 0, .ref g61, .ref g62, .int 0, .int 0, .ref g63, .ref g64, .ref g65, .ref g66, .ref g67, .ref g68, .ref g69, .ref g70, .ref g71, .ref g72, .ref g73, .int 0, .ref g74, .int 0, .ref g75]))] dX14_error_2 zw2468 rfl rfl rfl rfl rfl (kk := ?_)
  refine z_iload_n hC (pc := 5) 1 dX14_error_5 rfl rfl ?_
  refine z_if_lt hC (pc := 6) 33 dX14_error_6 (by decide) (fun c1 => ?_) (fun c1 => ?_)
  · refine z_iconst hC (pc := 33) (v := (-1)) dX14_error_33 (by decide) ?_
    exact hR _ _ _ _ _ _ dX14_error_34 rfl (Nat.le_of_ble_eq_true rfl) (Nat.le_of_ble_eq_true rfl) rfl
  · refine z_iload_n hC (pc := 9) 1 dX14_error_9 rfl rfl ?_
    refine z_aload_n hC (pc := 10) 0 dX14_error_10 rfl rfl ?_
    refine z_get hC (pc := 11) zf14 0 73 dX14_error_11 zw2540 rfl rfl (kk := ?_)
    refine z_icmp_geT hC (pc := 14) 33 dX14_error_14 (by decide) (by simp only [Int32.lt_iff_toInt_lt, Int32.le_iff_toInt_le, ← Int32.toInt_inj, Int32.reduceToInt, Int32.zero_add] at c1 ⊢; omega) ?_
    refine z_iconst hC (pc := 33) (v := (-1)) dX14_error_33 (by decide) ?_
    exact hR _ _ _ _ _ _ dX14_error_34 rfl (Nat.le_of_ble_eq_true rfl) (Nat.le_of_ble_eq_true rfl) rfl
set_option maxRecDepth 100000 in
theorem kX12_told_77 (l : Launch) (G : zG) (h0 : Nat) (g1 : Nat) (g2 : Nat) (g3 : Nat) (g4 : Nat) (g5 : Nat) (g6 : Nat) (g7 : Nat) (g8 : Nat) (g9 : Nat) (g10 : Nat) (g11 : Nat) : zMi l G yX12_told cX12_told 2 .int 0 0 0 0 [.ref h0, .int 1] [(h0, .inr (12, [.ref g1, .ref g2, .int 0, .ref g3, .ref g4, .ref g5, .ref g6, .ref g7, .ref g8, .ref g9, .ref g10, .ref g11, .int 0, .int 0, .int (-1), .int (-1), .int 0, .int 0, .int 0]))] (fun r w => r = 0 ∧ w = [(h0, .inr (12, [.ref g1, .ref g2, .int 0, .ref g3, .ref g4, .ref g5, .ref g6, .ref g7, .ref g8, .ref g9, .ref g10, .ref g11, .int 0, .int 0, .int (-1), .int (-1), .int 0, .int 0, .int 0]))]) := by
  refine zMi.intro (by decide) (Nat.le_of_ble_eq_true rfl) (fun X hC hR => ?_)
  refine z_aload_n hC (pc := 0) 0 dX12_told_0 rfl rfl ?_
  refine z_get hC (pc := 1) zf12 0 17 dX12_told_1 zw725 rfl rfl (kk := ?_)
  refine z_if_neF hC (pc := 4) 9 dX12_told_4 (by decide) (by decide) ?_
  refine z_iconst hC (pc := 7) (v := 0) dX12_told_7 (by decide) ?_
  exact hR _ _ _ _ _ _ dX12_told_8 rfl (Nat.le_of_ble_eq_true rfl) (Nat.le_of_ble_eq_true rfl) ⟨rfl, rfl⟩
set_option maxRecDepth 100000 in
theorem plooked_c (l : Launch) (G : zG) (h0 : Nat) (x1 : Int32) (x2 : Int32) (g3 : Nat) (g4 : Nat) (g5 : Nat) (g6 : Nat) (g7 : Nat) (g8 : Nat) (g9 : Nat) (g10 : Nat) (g11 : Nat) (g12 : Nat) (g13 : Nat) : zMi l G yX12_looked cX12_looked 3 .int 1 21 0 0 [.ref h0, .int x1, .int x2] [(h0, .inr (12, [.ref g3, .ref g4, .int 0, .ref g5, .ref g6, .ref g7, .ref g8, .ref g9, .ref g10, .ref g11, .ref g12, .ref g13, .int 0, .int 0, .int (-1), .int (-1), .int 0, .int 0, .int 0]))] (fun r w => r = (-2)) := by
  refine zMi.intro (by decide) (Nat.le_of_ble_eq_true rfl) (fun X hC hR => ?_)
  refine z_iload_n hC (pc := 0) 1 dX12_looked_0 rfl rfl ?_
  refine z_if_lt hC (pc := 1) 29 dX12_looked_1 (by decide) (fun c1 => ?_) (fun c1 => ?_)
  · refine z_bipush hC (pc := 29) (v := (-2)) dX12_looked_29 (by decide) ?_
    exact hR _ _ _ _ _ _ dX12_looked_31 rfl (Nat.le_of_ble_eq_true rfl) (Nat.le_of_ble_eq_true rfl) rfl
  · refine z_iload_n hC (pc := 4) 1 dX12_looked_4 rfl rfl ?_
    refine z_sipush hC (pc := 5) (v := 1000) dX12_looked_5 (by decide) ?_
    refine z_icmp_ge hC (pc := 8) 29 dX12_looked_8 (by decide) (fun c2 => ?_) (fun c2 => ?_)
    · refine z_bipush hC (pc := 29) (v := (-2)) dX12_looked_29 (by decide) ?_
      exact hR _ _ _ _ _ _ dX12_looked_31 rfl (Nat.le_of_ble_eq_true rfl) (Nat.le_of_ble_eq_true rfl) rfl
    · refine z_iload_n hC (pc := 11) 2 dX12_looked_11 rfl rfl ?_
      refine z_if_lt hC (pc := 12) 29 dX12_looked_12 (by decide) (fun c3 => ?_) (fun c3 => ?_)
      · refine z_bipush hC (pc := 29) (v := (-2)) dX12_looked_29 (by decide) ?_
        exact hR _ _ _ _ _ _ dX12_looked_31 rfl (Nat.le_of_ble_eq_true rfl) (Nat.le_of_ble_eq_true rfl) rfl
      · refine z_iload_n hC (pc := 15) 2 dX12_looked_15 rfl rfl ?_
        refine z_iconst hC (pc := 16) (v := 1) dX12_looked_16 (by decide) ?_
        refine z_icmp_gt hC (pc := 17) 29 dX12_looked_17 (by decide) (fun c4 => ?_) (fun c4 => ?_)
        · refine z_bipush hC (pc := 29) (v := (-2)) dX12_looked_29 (by decide) ?_
          exact hR _ _ _ _ _ _ dX12_looked_31 rfl (Nat.le_of_ble_eq_true rfl) (Nat.le_of_ble_eq_true rfl) rfl
        · refine z_iload_n hC (pc := 20) 1 dX12_looked_20 rfl rfl ?_
          refine z_aload_n hC (pc := 21) 0 dX12_looked_21 rfl rfl ?_
          refine z_iconst hC (pc := 22) (v := 1) dX12_looked_22 (by decide) ?_
          refine z_callVi hC (pc := 23) (k := 0) (n := 0) (As := [.int 1]) (wr := []) (kX12_told_77 l G h0 g3 g4 g5 g6 g7 g8 g9 g10 g11 g12 g13) dmX12_told zf12 0 rfl [0] [] rfl rfl rfl dX12_looked_23 zw911 rfl rfl (Nat.le_of_ble_eq_true rfl) (Nat.le_of_ble_eq_true rfl) (Nat.le_of_ble_eq_true rfl) (Nat.le_of_ble_eq_true rfl) (Nat.le_of_ble_eq_true rfl) (fun r w hp => ?_)
          obtain ⟨rfl, rfl⟩ := hp
          refine z_icmp_ltF hC (pc := 26) 32 dX12_looked_26 (by decide) c1 ?_
          refine z_bipush hC (pc := 29) (v := (-2)) dX12_looked_29 (by decide) ?_
          exact hR _ _ _ _ _ _ dX12_looked_31 rfl (Nat.le_of_ble_eq_true rfl) (Nat.le_of_ble_eq_true rfl) rfl
set_option maxRecDepth 100000 in
theorem plooked_m (l : Launch) (G : zG) (h0 : Nat) (x1 : Int32) (x2 : Int32) (g3 : Nat) (g4 : Nat) (g5 : Nat) (g6 : Nat) (g7 : Nat) (g8 : Nat) (g9 : Nat) (g10 : Nat) (g11 : Nat) (g12 : Nat) (g13 : Nat) (g14 : Nat) (g15 : Nat) (g16 : Nat) (g17 : Nat) (g18 : Nat) (g19 : Nat) (g20 : Nat) (g21 : Nat) (g22 : Nat) (g23 : Nat) (g24 : Nat) (g25 : Nat) (g26 : Nat) (g27 : Nat) (g28 : Nat) (g29 : Nat) (g30 : Nat) (g31 : Nat) (g32 : Nat) (g33 : Nat) (g34 : Nat) (g35 : Nat) (g36 : Nat) (g37 : Nat) (g38 : Nat) (g39 : Nat) (g40 : Nat) (g41 : Nat) (g42 : Nat) (g43 : Nat) (g44 : Nat) (g45 : Nat) (g46 : Nat) (g47 : Nat) (g48 : Nat) (g49 : Nat) (g50 : Nat) (g51 : Nat) (g52 : Nat) (g53 : Nat) (g54 : Nat) (g55 : Nat) (g56 : Nat) (g57 : Nat) (g58 : Nat) (g59 : Nat) (g60 : Nat) (g61 : Nat) (g62 : Nat) (g63 : Nat) (g64 : Nat) (g65 : Nat) (g66 : Nat) (g67 : Nat) (g68 : Nat) (g69 : Nat) (g70 : Nat) (g71 : Nat) (g72 : Nat) (g73 : Nat) (g74 : Nat) (g75 : Nat) : zMi l G yX14_looked cX14_looked 3 .int 0 0 0 0 [.ref h0, .int x1, .int x2] [(h0, .inr (14, [.int 0, .ref g3, .ref g4, .int 0, .ref g5, .ref g6, .ref g7, .null, .null, .null, .int 0, .int 0, .int 0, .int 0, .int 0, .null, .int 0, .int 0, .int 0, .int 0, .ref g8, .int 0, .int 0, .int 0, .int 0, .int 0, .ref g9, .ref g10, .int 0, .int 0, .int 0, .int 0, .int (-1), .int (-1), .ref g11, .ref g12, .ref g13, .ref g14, .int 0, .int 0, .ref g15, .int 0, .int 0, .int 0, .int 0, .int 0, .ref g16, .ref g17, .ref g18, .ref g19, .ref g20, .ref g21, .ref g22, .ref g23, .ref g24, .ref g25, .ref g26, .ref g27, .ref g28, .ref g29, .int 0, .ref g30, .ref g31, .ref g32, .ref g33, .int 0, .int 0, .int 0, .int 0, .ref g34, .int 0, .int 0, .int 0, .int 0, .int 0, .ref g35, .ref g36, .ref g37, .ref g38, .ref g39, .int 0, .int 0, .int 0, .int 0, .ref g40, .ref g41, .ref g42, .ref g43, .int 0, .ref g44, .ref g45, .ref g46, .int 0, .ref g47, .int 0, .ref g48, .int 0, .int 0, .int 0, .int 0, .int 0, .int 0, .ref g49, .int 0, .int 0, .ref g50, .ref g51, .ref g52, .ref g53, .ref g54, .ref g55, .ref g56, .int 0, .int 0, .ref g57, .ref g58, .ref g59, .ref g60, .int 0, .int 0, .ref g61, .ref g62, .int 0, .int 0, .ref g63, .ref g64, .ref g65, .ref g66, .ref g67, .ref g68, .ref g69, .ref g70, .ref g71, .ref g72, .ref g73, .int 0, .ref g74, .int 0, .ref g75]))] (fun r w => r = (-2)) := by
  refine zMi.intro (by decide) (Nat.le_of_ble_eq_true rfl) (fun X hC hR => ?_)
  refine z_aload_n hC (pc := 0) 0 dX14_looked_0 rfl rfl ?_
  refine z_iconst hC (pc := 1) (v := 0) dX14_looked_1 (by decide) ?_
  refine z_put hC (pc := 2) zf14 0 0 [(h0, .inr (14, [.int 0, .ref g3, .ref g4, .int 0, .ref g5, .ref g6, .ref g7, .null, .null, .null, .int 0, .int 0, .int 0, .int 0, .int 0, .null, .int 0, .int 0, .int 0, .int 0, .ref g8, .int 0, .int 0, .int 0, .int 0, .int 0, .ref g9, .ref g10, .int 0, .int 0, .int 0, .int 0, .int (-1), .int (-1), .ref g11, .ref g12, .ref g13, .ref g14, .int 0, .int 0, .ref g15, .int 0, .int 0, .int 0, .int 0, .int 0, .ref g16, .ref g17, .ref g18, .ref g19, .ref g20, .ref g21, .ref g22, .ref g23, .ref g24, .ref g25, .ref g26, .ref g27, .ref g28, .ref g29, .int 0, .ref g30, .ref g31, .ref g32, .ref g33, .int 0, .int 0, .int 0, .int 0, .ref g34, .int 0, .int 0, .int 0, .int 0, .int 0, .ref g35, .ref g36, .ref g37, .ref g38, .ref g39, .int 0, .int 0, .int 0, .int 0, .ref g40, .ref g41, .ref g42, .ref g43, .int 0, .ref g44, .ref g45, .ref g46, .int 0, .ref g47, .int 0, .ref g48, .int 0, .int 0, .int 0, .int 0, .int 0, .int 0, .ref g49, .int 0, .int 0, .ref g50, .ref g51, .ref g52, .ref g53, .ref g54, .ref g55, .ref g56, .int 0, .int 0, .ref g57, .ref g58, .ref g59, .ref g60, .int 0, .int 0, .ref g61, .ref g62, .int 0, .int 0, .ref g63, .ref g64, .ref g65, .ref g66, .ref g67, .ref g68, .ref g69, .ref g70, .ref g71, .ref g72, .ref g73, .int 0, .ref g74, .int 0, .ref g75]))] dX14_looked_2 zw2468 rfl rfl rfl rfl rfl (kk := ?_)
  refine z_iload_n hC (pc := 5) 1 dX14_looked_5 rfl rfl ?_
  refine z_if_lt hC (pc := 6) 33 dX14_looked_6 (by decide) (fun c1 => ?_) (fun c1 => ?_)
  · refine z_bipush hC (pc := 33) (v := (-2)) dX14_looked_33 (by decide) ?_
    exact hR _ _ _ _ _ _ dX14_looked_35 rfl (Nat.le_of_ble_eq_true rfl) (Nat.le_of_ble_eq_true rfl) rfl
  · refine z_iload_n hC (pc := 9) 1 dX14_looked_9 rfl rfl ?_
    refine z_aload_n hC (pc := 10) 0 dX14_looked_10 rfl rfl ?_
    refine z_get hC (pc := 11) zf14 0 74 dX14_looked_11 zw2541 rfl rfl (kk := ?_)
    refine z_icmp_geT hC (pc := 14) 33 dX14_looked_14 (by decide) (by simp only [Int32.lt_iff_toInt_lt, Int32.le_iff_toInt_le, ← Int32.toInt_inj, Int32.reduceToInt, Int32.zero_add] at c1 ⊢; omega) ?_
    refine z_bipush hC (pc := 33) (v := (-2)) dX14_looked_33 (by decide) ?_
    exact hR _ _ _ _ _ _ dX14_looked_35 rfl (Nat.le_of_ble_eq_true rfl) (Nat.le_of_ble_eq_true rfl) rfl
set_option maxRecDepth 100000 in
theorem pfile0_c (l : Launch) (G : zG) (h0 : Nat) (x1 : Int32) (g2 : Nat) (g3 : Nat) (g4 : Nat) (g5 : Nat) (g6 : Nat) (g7 : Nat) (g8 : Nat) (g9 : Nat) (g10 : Nat) (g11 : Nat) (g12 : Nat) (hy1 : x1 < 0) : zMi l G yX12_file cX12_file 5 .boolean 0 0 0 0 [.ref h0, .int x1] [(h0, .inr (12, [.ref g2, .ref g3, .int 0, .ref g4, .ref g5, .ref g6, .ref g7, .ref g8, .ref g9, .ref g10, .ref g11, .ref g12, .int 0, .int 0, .int (-1), .int (-1), .int 0, .int 0, .int 0]))] (fun r w => r = 0) := by
  refine zMi.intro (by decide) (Nat.le_of_ble_eq_true rfl) (fun X hC hR => ?_)
  refine z_aload_n hC (pc := 0) 0 dX12_file_0 rfl rfl ?_
  refine z_get hC (pc := 1) zf12 0 2 dX12_file_1 zw710 rfl rfl (kk := ?_)
  refine z_istore_n hC (pc := 4) (lv' := [(2, .int 0), (0, .ref h0), (1, .int x1)]) dX12_file_4 rfl (by decide) rfl ?_
  refine z_aload_n hC (pc := 5) 1 dX12_file_5 rfl rfl ?_
  refine z_iconst hC (pc := 6) (v := 0) dX12_file_6 (by decide) ?_
  refine z_put hC (pc := 7) zf12 0 2 [(h0, .inr (12, [.ref g2, .ref g3, .int 0, .ref g4, .ref g5, .ref g6, .ref g7, .ref g8, .ref g9, .ref g10, .ref g11, .ref g12, .int 0, .int 0, .int (-1), .int (-1), .int 0, .int 0, .int 0]))] dX12_file_7 zw710 rfl rfl rfl rfl rfl (kk := ?_)
  refine z_iload_n hC (pc := 10) 2 dX12_file_10 rfl rfl ?_
  refine z_if_ltT hC (pc := 11) 20 dX12_file_11 (by decide) hy1 ?_
  refine z_iconst hC (pc := 20) (v := 0) dX12_file_20 (by decide) ?_
  exact hR _ _ _ _ _ _ dX12_file_21 rfl (Nat.le_of_ble_eq_true rfl) (Nat.le_of_ble_eq_true rfl) rfl
set_option maxRecDepth 100000 in
theorem pfile0_m (l : Launch) (G : zG) (h0 : Nat) (x1 : Int32) (g2 : Nat) (g3 : Nat) (g4 : Nat) (g5 : Nat) (g6 : Nat) (g7 : Nat) (g8 : Nat) (g9 : Nat) (g10 : Nat) (g11 : Nat) (g12 : Nat) (g13 : Nat) (g14 : Nat) (g15 : Nat) (g16 : Nat) (g17 : Nat) (g18 : Nat) (g19 : Nat) (g20 : Nat) (g21 : Nat) (g22 : Nat) (g23 : Nat) (g24 : Nat) (g25 : Nat) (g26 : Nat) (g27 : Nat) (g28 : Nat) (g29 : Nat) (g30 : Nat) (g31 : Nat) (g32 : Nat) (g33 : Nat) (g34 : Nat) (g35 : Nat) (g36 : Nat) (g37 : Nat) (g38 : Nat) (g39 : Nat) (g40 : Nat) (g41 : Nat) (g42 : Nat) (g43 : Nat) (g44 : Nat) (g45 : Nat) (g46 : Nat) (g47 : Nat) (g48 : Nat) (g49 : Nat) (g50 : Nat) (g51 : Nat) (g52 : Nat) (g53 : Nat) (g54 : Nat) (g55 : Nat) (g56 : Nat) (g57 : Nat) (g58 : Nat) (g59 : Nat) (g60 : Nat) (g61 : Nat) (g62 : Nat) (g63 : Nat) (g64 : Nat) (g65 : Nat) (g66 : Nat) (g67 : Nat) (g68 : Nat) (g69 : Nat) (g70 : Nat) (g71 : Nat) (g72 : Nat) (g73 : Nat) (g74 : Nat) (hy1 : x1 < 0) : zMi l G yX14_file cX14_file 3 .boolean 1 20 0 0 [.ref h0, .int x1] [(h0, .inr (14, [.int 0, .ref g2, .ref g3, .int 0, .ref g4, .ref g5, .ref g6, .null, .null, .null, .int 0, .int 0, .int 0, .int 0, .int 0, .null, .int 0, .int 0, .int 0, .int 0, .ref g7, .int 0, .int 0, .int 0, .int 0, .int 0, .ref g8, .ref g9, .int 0, .int 0, .int 0, .int 0, .int (-1), .int (-1), .ref g10, .ref g11, .ref g12, .ref g13, .int 0, .int 0, .ref g14, .int 0, .int 0, .int 0, .int 0, .int 0, .ref g15, .ref g16, .ref g17, .ref g18, .ref g19, .ref g20, .ref g21, .ref g22, .ref g23, .ref g24, .ref g25, .ref g26, .ref g27, .ref g28, .int 0, .ref g29, .ref g30, .ref g31, .ref g32, .int 0, .int 0, .int 0, .int 0, .ref g33, .int 0, .int 0, .int 0, .int 0, .int 0, .ref g34, .ref g35, .ref g36, .ref g37, .ref g38, .int 0, .int 0, .int 0, .int 0, .ref g39, .ref g40, .ref g41, .ref g42, .int 0, .ref g43, .ref g44, .ref g45, .int 0, .ref g46, .int 0, .ref g47, .int 0, .int 0, .int 0, .int 0, .int 0, .int 0, .ref g48, .int 0, .int 0, .ref g49, .ref g50, .ref g51, .ref g52, .ref g53, .ref g54, .ref g55, .int 0, .int 0, .ref g56, .ref g57, .ref g58, .ref g59, .int 0, .int 0, .ref g60, .ref g61, .int 0, .int 0, .ref g62, .ref g63, .ref g64, .ref g65, .ref g66, .ref g67, .ref g68, .ref g69, .ref g70, .ref g71, .ref g72, .int 0, .ref g73, .int 0, .ref g74]))] (fun r w => r = 0) := by
  refine zMi.intro (by decide) (Nat.le_of_ble_eq_true rfl) (fun X hC hR => ?_)
  refine z_aload_n hC (pc := 0) 0 dX14_file_0 rfl rfl ?_
  refine z_iconst hC (pc := 1) (v := 0) dX14_file_1 (by decide) ?_
  refine z_put hC (pc := 2) zf14 0 0 [(h0, .inr (14, [.int 0, .ref g2, .ref g3, .int 0, .ref g4, .ref g5, .ref g6, .null, .null, .null, .int 0, .int 0, .int 0, .int 0, .int 0, .null, .int 0, .int 0, .int 0, .int 0, .ref g7, .int 0, .int 0, .int 0, .int 0, .int 0, .ref g8, .ref g9, .int 0, .int 0, .int 0, .int 0, .int (-1), .int (-1), .ref g10, .ref g11, .ref g12, .ref g13, .int 0, .int 0, .ref g14, .int 0, .int 0, .int 0, .int 0, .int 0, .ref g15, .ref g16, .ref g17, .ref g18, .ref g19, .ref g20, .ref g21, .ref g22, .ref g23, .ref g24, .ref g25, .ref g26, .ref g27, .ref g28, .int 0, .ref g29, .ref g30, .ref g31, .ref g32, .int 0, .int 0, .int 0, .int 0, .ref g33, .int 0, .int 0, .int 0, .int 0, .int 0, .ref g34, .ref g35, .ref g36, .ref g37, .ref g38, .int 0, .int 0, .int 0, .int 0, .ref g39, .ref g40, .ref g41, .ref g42, .int 0, .ref g43, .ref g44, .ref g45, .int 0, .ref g46, .int 0, .ref g47, .int 0, .int 0, .int 0, .int 0, .int 0, .int 0, .ref g48, .int 0, .int 0, .ref g49, .ref g50, .ref g51, .ref g52, .ref g53, .ref g54, .ref g55, .int 0, .int 0, .ref g56, .ref g57, .ref g58, .ref g59, .int 0, .int 0, .ref g60, .ref g61, .int 0, .int 0, .ref g62, .ref g63, .ref g64, .ref g65, .ref g66, .ref g67, .ref g68, .ref g69, .ref g70, .ref g71, .ref g72, .int 0, .ref g73, .int 0, .ref g74]))] dX14_file_2 zw2468 rfl rfl rfl rfl rfl (kk := ?_)
  refine z_aload_n hC (pc := 5) 0 dX14_file_5 rfl rfl ?_
  refine z_callVv hC (pc := 6) (k := 0) (n := 0) (As := []) (wr := []) (kX14_take_53 l G h0 g2 g3 g4 g5 g6 g7 g8 g9 g10 g11 g12 g13 g14 g15 g16 g17 g18 g19 g20 g21 g22 g23 g24 g25 g26 g27 g28 g29 g30 g31 g32 g33 g34 g35 g36 g37 g38 g39 g40 g41 g42 g43 g44 g45 g46 g47 g48 g49 g50 g51 g52 g53 g54 g55 g56 g57 g58 g59 g60 g61 g62 g63 g64 g65 g66 g67 g68 g69 g70 g71 g72 g73 g74) dmX14_take zf14 0 rfl [0] [] rfl rfl rfl dX14_file_6 zw2905 rfl rfl (Nat.le_of_ble_eq_true rfl) (Nat.le_of_ble_eq_true rfl) (Nat.le_of_ble_eq_true rfl) (Nat.le_of_ble_eq_true rfl) (Nat.le_of_ble_eq_true rfl) (fun w hp => ?_)
  obtain rfl := hp
  refine z_iload_n hC (pc := 9) 1 dX14_file_9 rfl rfl ?_
  refine z_if_ltT hC (pc := 10) 19 dX14_file_10 (by decide) hy1 ?_
  refine z_iconst hC (pc := 19) (v := 0) dX14_file_19 (by decide) ?_
  exact hR _ _ _ _ _ _ dX14_file_20 rfl (Nat.le_of_ble_eq_true rfl) (Nat.le_of_ble_eq_true rfl) rfl
set_option maxRecDepth 100000 in
theorem pfile1_c (l : Launch) (G : zG) (h0 : Nat) (x1 : Int32) (g2 : Nat) (g3 : Nat) (g4 : Nat) (g5 : Nat) (g6 : Nat) (g7 : Nat) (g8 : Nat) (g9 : Nat) (g10 : Nat) (g11 : Nat) (g12 : Nat) (hy1 : ¬ x1 < 0) (hy2 : 8 ≤ x1) : zMi l G yX12_file cX12_file 5 .boolean 0 0 0 0 [.ref h0, .int x1] [(h0, .inr (12, [.ref g2, .ref g3, .int 0, .ref g4, .ref g5, .ref g6, .ref g7, .ref g8, .ref g9, .ref g10, .ref g11, .ref g12, .int 0, .int 0, .int (-1), .int (-1), .int 0, .int 0, .int 0]))] (fun r w => r = 0) := by
  refine zMi.intro (by decide) (Nat.le_of_ble_eq_true rfl) (fun X hC hR => ?_)
  refine z_aload_n hC (pc := 0) 0 dX12_file_0 rfl rfl ?_
  refine z_get hC (pc := 1) zf12 0 2 dX12_file_1 zw710 rfl rfl (kk := ?_)
  refine z_istore_n hC (pc := 4) (lv' := [(2, .int 0), (0, .ref h0), (1, .int x1)]) dX12_file_4 rfl (by decide) rfl ?_
  refine z_aload_n hC (pc := 5) 1 dX12_file_5 rfl rfl ?_
  refine z_iconst hC (pc := 6) (v := 0) dX12_file_6 (by decide) ?_
  refine z_put hC (pc := 7) zf12 0 2 [(h0, .inr (12, [.ref g2, .ref g3, .int 0, .ref g4, .ref g5, .ref g6, .ref g7, .ref g8, .ref g9, .ref g10, .ref g11, .ref g12, .int 0, .int 0, .int (-1), .int (-1), .int 0, .int 0, .int 0]))] dX12_file_7 zw710 rfl rfl rfl rfl rfl (kk := ?_)
  refine z_iload_n hC (pc := 10) 2 dX12_file_10 rfl rfl ?_
  refine z_if_ltF hC (pc := 11) 20 dX12_file_11 (by decide) hy1 ?_
  refine z_iload_n hC (pc := 14) 2 dX12_file_14 rfl rfl ?_
  refine z_bipush hC (pc := 15) (v := 8) dX12_file_15 (by decide) ?_
  refine z_icmp_ltF hC (pc := 17) 22 dX12_file_17 (by decide) (by simp only [Int32.lt_iff_toInt_lt, Int32.le_iff_toInt_le, ← Int32.toInt_inj, Int32.reduceToInt, Int32.zero_add] at hy1 hy2 ⊢; omega) ?_
  refine z_iconst hC (pc := 20) (v := 0) dX12_file_20 (by decide) ?_
  exact hR _ _ _ _ _ _ dX12_file_21 rfl (Nat.le_of_ble_eq_true rfl) (Nat.le_of_ble_eq_true rfl) rfl
set_option maxRecDepth 100000 in
theorem pfile1_m (l : Launch) (G : zG) (h0 : Nat) (x1 : Int32) (g2 : Nat) (g3 : Nat) (g4 : Nat) (g5 : Nat) (g6 : Nat) (g7 : Nat) (g8 : Nat) (g9 : Nat) (g10 : Nat) (g11 : Nat) (g12 : Nat) (g13 : Nat) (g14 : Nat) (g15 : Nat) (g16 : Nat) (g17 : Nat) (g18 : Nat) (g19 : Nat) (g20 : Nat) (g21 : Nat) (g22 : Nat) (g23 : Nat) (g24 : Nat) (g25 : Nat) (g26 : Nat) (g27 : Nat) (g28 : Nat) (g29 : Nat) (g30 : Nat) (g31 : Nat) (g32 : Nat) (g33 : Nat) (g34 : Nat) (g35 : Nat) (g36 : Nat) (g37 : Nat) (g38 : Nat) (g39 : Nat) (g40 : Nat) (g41 : Nat) (g42 : Nat) (g43 : Nat) (g44 : Nat) (g45 : Nat) (g46 : Nat) (g47 : Nat) (g48 : Nat) (g49 : Nat) (g50 : Nat) (g51 : Nat) (g52 : Nat) (g53 : Nat) (g54 : Nat) (g55 : Nat) (g56 : Nat) (g57 : Nat) (g58 : Nat) (g59 : Nat) (g60 : Nat) (g61 : Nat) (g62 : Nat) (g63 : Nat) (g64 : Nat) (g65 : Nat) (g66 : Nat) (g67 : Nat) (g68 : Nat) (g69 : Nat) (g70 : Nat) (g71 : Nat) (g72 : Nat) (g73 : Nat) (g74 : Nat) (hy1 : ¬ x1 < 0) (hy2 : 8 ≤ x1) : zMi l G yX14_file cX14_file 3 .boolean 1 20 0 0 [.ref h0, .int x1] [(h0, .inr (14, [.int 0, .ref g2, .ref g3, .int 0, .ref g4, .ref g5, .ref g6, .null, .null, .null, .int 0, .int 0, .int 0, .int 0, .int 0, .null, .int 0, .int 0, .int 0, .int 0, .ref g7, .int 0, .int 0, .int 0, .int 0, .int 0, .ref g8, .ref g9, .int 0, .int 0, .int 0, .int 0, .int (-1), .int (-1), .ref g10, .ref g11, .ref g12, .ref g13, .int 0, .int 0, .ref g14, .int 0, .int 0, .int 0, .int 0, .int 0, .ref g15, .ref g16, .ref g17, .ref g18, .ref g19, .ref g20, .ref g21, .ref g22, .ref g23, .ref g24, .ref g25, .ref g26, .ref g27, .ref g28, .int 0, .ref g29, .ref g30, .ref g31, .ref g32, .int 0, .int 0, .int 0, .int 0, .ref g33, .int 0, .int 0, .int 0, .int 0, .int 0, .ref g34, .ref g35, .ref g36, .ref g37, .ref g38, .int 0, .int 0, .int 0, .int 0, .ref g39, .ref g40, .ref g41, .ref g42, .int 0, .ref g43, .ref g44, .ref g45, .int 0, .ref g46, .int 0, .ref g47, .int 0, .int 0, .int 0, .int 0, .int 0, .int 0, .ref g48, .int 0, .int 0, .ref g49, .ref g50, .ref g51, .ref g52, .ref g53, .ref g54, .ref g55, .int 0, .int 0, .ref g56, .ref g57, .ref g58, .ref g59, .int 0, .int 0, .ref g60, .ref g61, .int 0, .int 0, .ref g62, .ref g63, .ref g64, .ref g65, .ref g66, .ref g67, .ref g68, .ref g69, .ref g70, .ref g71, .ref g72, .int 0, .ref g73, .int 0, .ref g74]))] (fun r w => r = 0) := by
  refine zMi.intro (by decide) (Nat.le_of_ble_eq_true rfl) (fun X hC hR => ?_)
  refine z_aload_n hC (pc := 0) 0 dX14_file_0 rfl rfl ?_
  refine z_iconst hC (pc := 1) (v := 0) dX14_file_1 (by decide) ?_
  refine z_put hC (pc := 2) zf14 0 0 [(h0, .inr (14, [.int 0, .ref g2, .ref g3, .int 0, .ref g4, .ref g5, .ref g6, .null, .null, .null, .int 0, .int 0, .int 0, .int 0, .int 0, .null, .int 0, .int 0, .int 0, .int 0, .ref g7, .int 0, .int 0, .int 0, .int 0, .int 0, .ref g8, .ref g9, .int 0, .int 0, .int 0, .int 0, .int (-1), .int (-1), .ref g10, .ref g11, .ref g12, .ref g13, .int 0, .int 0, .ref g14, .int 0, .int 0, .int 0, .int 0, .int 0, .ref g15, .ref g16, .ref g17, .ref g18, .ref g19, .ref g20, .ref g21, .ref g22, .ref g23, .ref g24, .ref g25, .ref g26, .ref g27, .ref g28, .int 0, .ref g29, .ref g30, .ref g31, .ref g32, .int 0, .int 0, .int 0, .int 0, .ref g33, .int 0, .int 0, .int 0, .int 0, .int 0, .ref g34, .ref g35, .ref g36, .ref g37, .ref g38, .int 0, .int 0, .int 0, .int 0, .ref g39, .ref g40, .ref g41, .ref g42, .int 0, .ref g43, .ref g44, .ref g45, .int 0, .ref g46, .int 0, .ref g47, .int 0, .int 0, .int 0, .int 0, .int 0, .int 0, .ref g48, .int 0, .int 0, .ref g49, .ref g50, .ref g51, .ref g52, .ref g53, .ref g54, .ref g55, .int 0, .int 0, .ref g56, .ref g57, .ref g58, .ref g59, .int 0, .int 0, .ref g60, .ref g61, .int 0, .int 0, .ref g62, .ref g63, .ref g64, .ref g65, .ref g66, .ref g67, .ref g68, .ref g69, .ref g70, .ref g71, .ref g72, .int 0, .ref g73, .int 0, .ref g74]))] dX14_file_2 zw2468 rfl rfl rfl rfl rfl (kk := ?_)
  refine z_aload_n hC (pc := 5) 0 dX14_file_5 rfl rfl ?_
  refine z_callVv hC (pc := 6) (k := 0) (n := 0) (As := []) (wr := []) (kX14_take_53 l G h0 g2 g3 g4 g5 g6 g7 g8 g9 g10 g11 g12 g13 g14 g15 g16 g17 g18 g19 g20 g21 g22 g23 g24 g25 g26 g27 g28 g29 g30 g31 g32 g33 g34 g35 g36 g37 g38 g39 g40 g41 g42 g43 g44 g45 g46 g47 g48 g49 g50 g51 g52 g53 g54 g55 g56 g57 g58 g59 g60 g61 g62 g63 g64 g65 g66 g67 g68 g69 g70 g71 g72 g73 g74) dmX14_take zf14 0 rfl [0] [] rfl rfl rfl dX14_file_6 zw2905 rfl rfl (Nat.le_of_ble_eq_true rfl) (Nat.le_of_ble_eq_true rfl) (Nat.le_of_ble_eq_true rfl) (Nat.le_of_ble_eq_true rfl) (Nat.le_of_ble_eq_true rfl) (fun w hp => ?_)
  obtain rfl := hp
  refine z_iload_n hC (pc := 9) 1 dX14_file_9 rfl rfl ?_
  refine z_if_ltF hC (pc := 10) 19 dX14_file_10 (by decide) hy1 ?_
  refine z_iload_n hC (pc := 13) 1 dX14_file_13 rfl rfl ?_
  refine z_bipush hC (pc := 14) (v := 8) dX14_file_14 (by decide) ?_
  refine z_icmp_ltF hC (pc := 16) 21 dX14_file_16 (by decide) (by simp only [Int32.lt_iff_toInt_lt, Int32.le_iff_toInt_le, ← Int32.toInt_inj, Int32.reduceToInt, Int32.zero_add] at hy1 hy2 ⊢; omega) ?_
  refine z_iconst hC (pc := 19) (v := 0) dX14_file_19 (by decide) ?_
  exact hR _ _ _ _ _ _ dX14_file_20 rfl (Nat.le_of_ble_eq_true rfl) (Nat.le_of_ble_eq_true rfl) rfl
set_option maxRecDepth 100000 in
theorem pfile2_c (l : Launch) (G : zG) (h0 : Nat) (h1 : Nat) (h2 : Nat) (x3 : Int32) (g4 : Nat) (g5 : Nat) (g6 : Nat) (g7 : Nat) (g8 : Nat) (g9 : Nat) (g10 : Nat) (g11 : Nat) (g12 : Nat) (r13 : Nat → Nat) (hy1 : ¬ x3 < 0) (hy2 : ¬ 8 ≤ x3) : zMi l G yX12_file cX12_file 5 .boolean 0 0 0 0 [.ref h0, .int x3] [(h0, .inr (12, [.ref g4, .ref g5, .int 0, .ref h1, .ref h2, .ref g6, .ref g7, .ref g8, .ref g9, .ref g10, .ref g11, .ref g12, .int 0, .int 0, .int (-1), .int (-1), .int 0, .int 0, .int 0])), (h1, .inl (G.2.1 4, 8, .inr (.inr (.inr (.inr (fun i => if i < 8 then some (r13 i) else none)))))), (h2, .inl (G.2.1 0, 8, .inl (fun _ => 0)))] (fun r w => r = 1) := by
  refine zMi.intro (by decide) (Nat.le_of_ble_eq_true rfl) (fun X hC hR => ?_)
  refine z_aload_n hC (pc := 0) 0 dX12_file_0 rfl rfl ?_
  refine z_get hC (pc := 1) zf12 0 2 dX12_file_1 zw710 rfl rfl (kk := ?_)
  refine z_istore_n hC (pc := 4) (lv' := [(2, .int 0), (0, .ref h0), (1, .int x3)]) dX12_file_4 rfl (by decide) rfl ?_
  refine z_aload_n hC (pc := 5) 1 dX12_file_5 rfl rfl ?_
  refine z_iconst hC (pc := 6) (v := 0) dX12_file_6 (by decide) ?_
  refine z_put hC (pc := 7) zf12 0 2 [(h0, .inr (12, [.ref g4, .ref g5, .int 0, .ref h1, .ref h2, .ref g6, .ref g7, .ref g8, .ref g9, .ref g10, .ref g11, .ref g12, .int 0, .int 0, .int (-1), .int (-1), .int 0, .int 0, .int 0])), (h1, .inl (G.2.1 4, 8, .inr (.inr (.inr (.inr (fun i => if i < 8 then some (r13 i) else none)))))), (h2, .inl (G.2.1 0, 8, .inl (fun _ => 0)))] dX12_file_7 zw710 rfl rfl rfl rfl rfl (kk := ?_)
  refine z_iload_n hC (pc := 10) 2 dX12_file_10 rfl rfl ?_
  refine z_if_ltF hC (pc := 11) 20 dX12_file_11 (by decide) hy1 ?_
  refine z_iload_n hC (pc := 14) 2 dX12_file_14 rfl rfl ?_
  refine z_bipush hC (pc := 15) (v := 8) dX12_file_15 (by decide) ?_
  refine z_icmp_ltT hC (pc := 17) 22 dX12_file_17 (by decide) (by simp only [Int32.lt_iff_toInt_lt, Int32.le_iff_toInt_le, ← Int32.toInt_inj, Int32.reduceToInt, Int32.zero_add] at hy1 hy2 ⊢; omega) ?_
  refine z_iconst hC (pc := 22) (v := 0) dX12_file_22 (by decide) ?_
  refine z_istore_n hC (pc := 23) (lv' := [(3, .int 0), (2, .int 0), (0, .ref h0), (1, .int x3)]) dX12_file_23 rfl (by decide) rfl ?_
  refine z_iload_n hC (pc := 24) 0 dX12_file_24 rfl rfl ?_
  refine z_iload_n hC (pc := 25) 1 dX12_file_25 rfl rfl ?_
  refine z_icmp_geT hC (pc := 26) 75 dX12_file_26 (by decide) (by decide) ?_
  refine z_aload_n hC (pc := 75) 2 dX12_file_75 rfl rfl ?_
  refine z_get hC (pc := 76) zf12 0 3 dX12_file_76 zw711 rfl rfl (kk := ?_)
  refine z_iload_n hC (pc := 79) 3 dX12_file_79 rfl rfl ?_
  refine z_aald4 hC (pc := 80) (v := (r13 (x3 : Int32).toNatClampNeg)) 1 dX12_file_80 rfl (zvs hy1 hy2 rfl) (zq4 (zvs hy1 hy2 rfl)) ?_
  refine z_astore_n hC (pc := 81) (lv' := [(3, .ref (r13 (x3 : Int32).toNatClampNeg)), (2, .int 0), (0, .ref h0), (1, .int x3)]) dX12_file_81 rfl (by decide) rfl ?_
  refine z_iconst hC (pc := 82) (v := 0) dX12_file_82 (by decide) ?_
  refine z_istore hC (pc := 83) (lv' := [(4, .int 0), (3, .ref (r13 (x3 : Int32).toNatClampNeg)), (2, .int 0), (0, .ref h0), (1, .int x3)]) dX12_file_83 (by decide) rfl ?_
  refine z_iload hC (pc := 85) 0 dX12_file_85 rfl ?_
  refine z_iload_n hC (pc := 87) 2 dX12_file_87 rfl rfl ?_
  refine z_icmp_geT hC (pc := 88) 112 dX12_file_88 (by decide) (by decide) ?_
  refine z_aload_n hC (pc := 112) 3 dX12_file_112 rfl rfl ?_
  refine z_get hC (pc := 113) zf12 0 4 dX12_file_113 zw712 rfl rfl (kk := ?_)
  refine z_iload_n hC (pc := 116) 4 dX12_file_116 rfl rfl ?_
  refine z_iload_n hC (pc := 117) 2 dX12_file_117 rfl rfl ?_
  refine z_iast hC (pc := 118) (f' := (upd (fun _ => 0) ((x3 : Int32).toNatClampNeg) 0)) 2 [(h0, .inr (12, [.ref g4, .ref g5, .int 0, .ref h1, .ref h2, .ref g6, .ref g7, .ref g8, .ref g9, .ref g10, .ref g11, .ref g12, .int 0, .int 0, .int (-1), .int (-1), .int 0, .int 0, .int 0])), (h1, .inl (G.2.1 4, 8, .inr (.inr (.inr (.inr (fun i => if i < 8 then some (r13 i) else none)))))), (h2, .inl (G.2.1 0, 8, .inl (upd (fun _ => 0) ((x3 : Int32).toNatClampNeg) 0)))] dX12_file_118 rfl (zvs hy1 hy2 rfl) rfl rfl ?_
  refine z_iconst hC (pc := 119) (v := 1) dX12_file_119 (by decide) ?_
  exact hR _ _ _ _ _ _ dX12_file_120 rfl (Nat.le_of_ble_eq_true rfl) (Nat.le_of_ble_eq_true rfl) rfl
set_option maxRecDepth 100000 in
theorem pfile2_m (l : Launch) (G : zG) (h0 : Nat) (h1 : Nat) (x2 : Int32) (g3 : Nat) (g4 : Nat) (g5 : Nat) (g6 : Nat) (g7 : Nat) (g8 : Nat) (g9 : Nat) (g10 : Nat) (g11 : Nat) (g12 : Nat) (g13 : Nat) (g14 : Nat) (g15 : Nat) (g16 : Nat) (g17 : Nat) (g18 : Nat) (g19 : Nat) (g20 : Nat) (g21 : Nat) (g22 : Nat) (g23 : Nat) (g24 : Nat) (g25 : Nat) (g26 : Nat) (g27 : Nat) (g28 : Nat) (g29 : Nat) (g30 : Nat) (g31 : Nat) (g32 : Nat) (g33 : Nat) (g34 : Nat) (g35 : Nat) (g36 : Nat) (g37 : Nat) (g38 : Nat) (g39 : Nat) (g40 : Nat) (g41 : Nat) (g42 : Nat) (g43 : Nat) (g44 : Nat) (g45 : Nat) (g46 : Nat) (g47 : Nat) (g48 : Nat) (g49 : Nat) (g50 : Nat) (g51 : Nat) (g52 : Nat) (g53 : Nat) (g54 : Nat) (g55 : Nat) (g56 : Nat) (g57 : Nat) (g58 : Nat) (g59 : Nat) (g60 : Nat) (g61 : Nat) (g62 : Nat) (g63 : Nat) (g64 : Nat) (g65 : Nat) (g66 : Nat) (g67 : Nat) (g68 : Nat) (g69 : Nat) (g70 : Nat) (g71 : Nat) (g72 : Nat) (g73 : Nat) (g74 : Nat) (hy1 : ¬ x2 < 0) (hy2 : ¬ 8 ≤ x2) : zMi l G yX14_file cX14_file 3 .boolean 1 20 0 0 [.ref h0, .int x2] [(h0, .inr (14, [.int 0, .ref g3, .ref g4, .int 0, .ref g5, .ref h1, .ref g6, .null, .null, .null, .int 0, .int 0, .int 0, .int 0, .int 0, .null, .int 0, .int 0, .int 0, .int 0, .ref g7, .int 0, .int 0, .int 0, .int 0, .int 0, .ref g8, .ref g9, .int 0, .int 0, .int 0, .int 0, .int (-1), .int (-1), .ref g10, .ref g11, .ref g12, .ref g13, .int 0, .int 0, .ref g14, .int 0, .int 0, .int 0, .int 0, .int 0, .ref g15, .ref g16, .ref g17, .ref g18, .ref g19, .ref g20, .ref g21, .ref g22, .ref g23, .ref g24, .ref g25, .ref g26, .ref g27, .ref g28, .int 0, .ref g29, .ref g30, .ref g31, .ref g32, .int 0, .int 0, .int 0, .int 0, .ref g33, .int 0, .int 0, .int 0, .int 0, .int 0, .ref g34, .ref g35, .ref g36, .ref g37, .ref g38, .int 0, .int 0, .int 0, .int 0, .ref g39, .ref g40, .ref g41, .ref g42, .int 0, .ref g43, .ref g44, .ref g45, .int 0, .ref g46, .int 0, .ref g47, .int 0, .int 0, .int 0, .int 0, .int 0, .int 0, .ref g48, .int 0, .int 0, .ref g49, .ref g50, .ref g51, .ref g52, .ref g53, .ref g54, .ref g55, .int 0, .int 0, .ref g56, .ref g57, .ref g58, .ref g59, .int 0, .int 0, .ref g60, .ref g61, .int 0, .int 0, .ref g62, .ref g63, .ref g64, .ref g65, .ref g66, .ref g67, .ref g68, .ref g69, .ref g70, .ref g71, .ref g72, .int 0, .ref g73, .int 0, .ref g74])), (h1, .inl (G.2.1 0, 8, .inl (fun _ => 0)))] (fun r w => r = 1) := by
  refine zMi.intro (by decide) (Nat.le_of_ble_eq_true rfl) (fun X hC hR => ?_)
  refine z_aload_n hC (pc := 0) 0 dX14_file_0 rfl rfl ?_
  refine z_iconst hC (pc := 1) (v := 0) dX14_file_1 (by decide) ?_
  refine z_put hC (pc := 2) zf14 0 0 [(h0, .inr (14, [.int 0, .ref g3, .ref g4, .int 0, .ref g5, .ref h1, .ref g6, .null, .null, .null, .int 0, .int 0, .int 0, .int 0, .int 0, .null, .int 0, .int 0, .int 0, .int 0, .ref g7, .int 0, .int 0, .int 0, .int 0, .int 0, .ref g8, .ref g9, .int 0, .int 0, .int 0, .int 0, .int (-1), .int (-1), .ref g10, .ref g11, .ref g12, .ref g13, .int 0, .int 0, .ref g14, .int 0, .int 0, .int 0, .int 0, .int 0, .ref g15, .ref g16, .ref g17, .ref g18, .ref g19, .ref g20, .ref g21, .ref g22, .ref g23, .ref g24, .ref g25, .ref g26, .ref g27, .ref g28, .int 0, .ref g29, .ref g30, .ref g31, .ref g32, .int 0, .int 0, .int 0, .int 0, .ref g33, .int 0, .int 0, .int 0, .int 0, .int 0, .ref g34, .ref g35, .ref g36, .ref g37, .ref g38, .int 0, .int 0, .int 0, .int 0, .ref g39, .ref g40, .ref g41, .ref g42, .int 0, .ref g43, .ref g44, .ref g45, .int 0, .ref g46, .int 0, .ref g47, .int 0, .int 0, .int 0, .int 0, .int 0, .int 0, .ref g48, .int 0, .int 0, .ref g49, .ref g50, .ref g51, .ref g52, .ref g53, .ref g54, .ref g55, .int 0, .int 0, .ref g56, .ref g57, .ref g58, .ref g59, .int 0, .int 0, .ref g60, .ref g61, .int 0, .int 0, .ref g62, .ref g63, .ref g64, .ref g65, .ref g66, .ref g67, .ref g68, .ref g69, .ref g70, .ref g71, .ref g72, .int 0, .ref g73, .int 0, .ref g74])), (h1, .inl (G.2.1 0, 8, .inl (fun _ => 0)))] dX14_file_2 zw2468 rfl rfl rfl rfl rfl (kk := ?_)
  refine z_aload_n hC (pc := 5) 0 dX14_file_5 rfl rfl ?_
  refine z_callVv hC (pc := 6) (k := 0) (n := 0) (As := []) (wr := [(h1, .inl (G.2.1 0, 8, .inl (fun _ => 0)))]) (kX14_take_53 l G h0 g3 g4 g5 h1 g6 g7 g8 g9 g10 g11 g12 g13 g14 g15 g16 g17 g18 g19 g20 g21 g22 g23 g24 g25 g26 g27 g28 g29 g30 g31 g32 g33 g34 g35 g36 g37 g38 g39 g40 g41 g42 g43 g44 g45 g46 g47 g48 g49 g50 g51 g52 g53 g54 g55 g56 g57 g58 g59 g60 g61 g62 g63 g64 g65 g66 g67 g68 g69 g70 g71 g72 g73 g74) dmX14_take zf14 0 rfl [0] [1] rfl rfl rfl dX14_file_6 zw2905 rfl rfl (Nat.le_of_ble_eq_true rfl) (Nat.le_of_ble_eq_true rfl) (Nat.le_of_ble_eq_true rfl) (Nat.le_of_ble_eq_true rfl) (Nat.le_of_ble_eq_true rfl) (fun w hp => ?_)
  obtain rfl := hp
  refine z_iload_n hC (pc := 9) 1 dX14_file_9 rfl rfl ?_
  refine z_if_ltF hC (pc := 10) 19 dX14_file_10 (by decide) hy1 ?_
  refine z_iload_n hC (pc := 13) 1 dX14_file_13 rfl rfl ?_
  refine z_bipush hC (pc := 14) (v := 8) dX14_file_14 (by decide) ?_
  refine z_icmp_ltT hC (pc := 16) 21 dX14_file_16 (by decide) (by simp only [Int32.lt_iff_toInt_lt, Int32.le_iff_toInt_le, ← Int32.toInt_inj, Int32.reduceToInt, Int32.zero_add] at hy1 hy2 ⊢; omega) ?_
  refine z_iconst hC (pc := 21) (v := 0) dX14_file_21 (by decide) ?_
  refine z_istore_n hC (pc := 22) (lv' := [(2, .int 0), (0, .ref h0), (1, .int x2)]) dX14_file_22 rfl (by decide) rfl ?_
  refine z_iload_n hC (pc := 23) 0 dX14_file_23 rfl rfl ?_
  refine z_aload_n hC (pc := 24) 1 dX14_file_24 rfl rfl ?_
  refine z_get hC (pc := 25) zf14 1 66 dX14_file_25 zw2533 rfl rfl (kk := ?_)
  refine z_icmp_geT hC (pc := 28) 83 dX14_file_28 (by decide) (by decide) ?_
  refine z_iconst hC (pc := 83) (v := 0) dX14_file_83 (by decide) ?_
  refine z_istore_n hC (pc := 84) (lv' := [(2, .int 0), (0, .ref h0), (1, .int x2)]) dX14_file_84 rfl (by decide) rfl ?_
  refine z_iload_n hC (pc := 85) 0 dX14_file_85 rfl rfl ?_
  refine z_aload_n hC (pc := 86) 1 dX14_file_86 rfl rfl ?_
  refine z_get hC (pc := 87) zf14 1 66 dX14_file_87 zw2533 rfl rfl (kk := ?_)
  refine z_icmp_geT hC (pc := 90) 113 dX14_file_90 (by decide) (by decide) ?_
  refine z_aload_n hC (pc := 113) 1 dX14_file_113 rfl rfl ?_
  refine z_get hC (pc := 114) zf14 1 5 dX14_file_114 zw2473 rfl rfl (kk := ?_)
  refine z_iload_n hC (pc := 117) 2 dX14_file_117 rfl rfl ?_
  refine z_aload_n hC (pc := 118) 1 dX14_file_118 rfl rfl ?_
  refine z_get hC (pc := 119) zf14 1 66 dX14_file_119 zw2533 rfl rfl (kk := ?_)
  refine z_iast hC (pc := 122) (f' := (upd (fun _ => 0) ((x2 : Int32).toNatClampNeg) 0)) 0 [(h1, .inl (G.2.1 0, 8, .inl (upd (fun _ => 0) ((x2 : Int32).toNatClampNeg) 0))), (h0, .inr (14, [.int 0, .ref g3, .ref g4, .int 0, .ref g5, .ref h1, .ref g6, .null, .null, .null, .int 0, .int 0, .int 0, .int 0, .int 0, .null, .int 0, .int 0, .int 0, .int 0, .ref g7, .int 0, .int 0, .int 0, .int 0, .int 0, .ref g8, .ref g9, .int 0, .int 0, .int 0, .int 0, .int (-1), .int (-1), .ref g10, .ref g11, .ref g12, .ref g13, .int 0, .int 0, .ref g14, .int 0, .int 0, .int 0, .int 0, .int 0, .ref g15, .ref g16, .ref g17, .ref g18, .ref g19, .ref g20, .ref g21, .ref g22, .ref g23, .ref g24, .ref g25, .ref g26, .ref g27, .ref g28, .int 0, .ref g29, .ref g30, .ref g31, .ref g32, .int 0, .int 0, .int 0, .int 0, .ref g33, .int 0, .int 0, .int 0, .int 0, .int 0, .ref g34, .ref g35, .ref g36, .ref g37, .ref g38, .int 0, .int 0, .int 0, .int 0, .ref g39, .ref g40, .ref g41, .ref g42, .int 0, .ref g43, .ref g44, .ref g45, .int 0, .ref g46, .int 0, .ref g47, .int 0, .int 0, .int 0, .int 0, .int 0, .int 0, .ref g48, .int 0, .int 0, .ref g49, .ref g50, .ref g51, .ref g52, .ref g53, .ref g54, .ref g55, .int 0, .int 0, .ref g56, .ref g57, .ref g58, .ref g59, .int 0, .int 0, .ref g60, .ref g61, .int 0, .int 0, .ref g62, .ref g63, .ref g64, .ref g65, .ref g66, .ref g67, .ref g68, .ref g69, .ref g70, .ref g71, .ref g72, .int 0, .ref g73, .int 0, .ref g74]))] dX14_file_122 rfl (zvs hy1 hy2 rfl) rfl rfl ?_
  refine z_iconst hC (pc := 123) (v := 1) dX14_file_123 (by decide) ?_
  exact hR _ _ _ _ _ _ dX14_file_124 rfl (Nat.le_of_ble_eq_true rfl) (Nat.le_of_ble_eq_true rfl) rfl
set_option maxRecDepth 100000 in
theorem pend0_c (l : Launch) (G : zG) (h0 : Nat) (x1 : Int32) (g2 : Nat) (g3 : Nat) (g4 : Nat) (g5 : Nat) (g6 : Nat) (g7 : Nat) (g8 : Nat) (g9 : Nat) (g10 : Nat) (g11 : Nat) (g12 : Nat) (hy1 : x1 < 0) : zMi l G yX12_end cX12_end 3 .int 0 0 0 0 [.ref h0, .int x1] [(h0, .inr (12, [.ref g2, .ref g3, .int 0, .ref g4, .ref g5, .ref g6, .ref g7, .ref g8, .ref g9, .ref g10, .ref g11, .ref g12, .int 0, .int 0, .int (-1), .int (-1), .int 0, .int 0, .int 0]))] (fun r w => r = (-1)) := by
  refine zMi.intro (by decide) (Nat.le_of_ble_eq_true rfl) (fun X hC hR => ?_)
  refine z_iload_n hC (pc := 0) 1 dX12_end_0 rfl rfl ?_
  refine z_if_ltT hC (pc := 1) 22 dX12_end_1 (by decide) hy1 ?_
  refine z_iconst hC (pc := 22) (v := (-1)) dX12_end_22 (by decide) ?_
  exact hR _ _ _ _ _ _ dX12_end_23 rfl (Nat.le_of_ble_eq_true rfl) (Nat.le_of_ble_eq_true rfl) rfl
set_option maxRecDepth 100000 in
theorem pend0_m (l : Launch) (G : zG) (h0 : Nat) (x1 : Int32) (g2 : Nat) (g3 : Nat) (g4 : Nat) (g5 : Nat) (g6 : Nat) (g7 : Nat) (g8 : Nat) (g9 : Nat) (g10 : Nat) (g11 : Nat) (g12 : Nat) (g13 : Nat) (g14 : Nat) (g15 : Nat) (g16 : Nat) (g17 : Nat) (g18 : Nat) (g19 : Nat) (g20 : Nat) (g21 : Nat) (g22 : Nat) (g23 : Nat) (g24 : Nat) (g25 : Nat) (g26 : Nat) (g27 : Nat) (g28 : Nat) (g29 : Nat) (g30 : Nat) (g31 : Nat) (g32 : Nat) (g33 : Nat) (g34 : Nat) (g35 : Nat) (g36 : Nat) (g37 : Nat) (g38 : Nat) (g39 : Nat) (g40 : Nat) (g41 : Nat) (g42 : Nat) (g43 : Nat) (g44 : Nat) (g45 : Nat) (g46 : Nat) (g47 : Nat) (g48 : Nat) (g49 : Nat) (g50 : Nat) (g51 : Nat) (g52 : Nat) (g53 : Nat) (g54 : Nat) (g55 : Nat) (g56 : Nat) (g57 : Nat) (g58 : Nat) (g59 : Nat) (g60 : Nat) (g61 : Nat) (g62 : Nat) (g63 : Nat) (g64 : Nat) (g65 : Nat) (g66 : Nat) (g67 : Nat) (g68 : Nat) (g69 : Nat) (g70 : Nat) (g71 : Nat) (g72 : Nat) (g73 : Nat) (g74 : Nat) (hy1 : x1 < 0) : zMi l G yX14_end cX14_end 3 .int 0 0 0 0 [.ref h0, .int x1] [(h0, .inr (14, [.int 0, .ref g2, .ref g3, .int 0, .ref g4, .ref g5, .ref g6, .null, .null, .null, .int 0, .int 0, .int 0, .int 0, .int 0, .null, .int 0, .int 0, .int 0, .int 0, .ref g7, .int 0, .int 0, .int 0, .int 0, .int 0, .ref g8, .ref g9, .int 0, .int 0, .int 0, .int 0, .int (-1), .int (-1), .ref g10, .ref g11, .ref g12, .ref g13, .int 0, .int 0, .ref g14, .int 0, .int 0, .int 0, .int 0, .int 0, .ref g15, .ref g16, .ref g17, .ref g18, .ref g19, .ref g20, .ref g21, .ref g22, .ref g23, .ref g24, .ref g25, .ref g26, .ref g27, .ref g28, .int 0, .ref g29, .ref g30, .ref g31, .ref g32, .int 0, .int 0, .int 0, .int 0, .ref g33, .int 0, .int 0, .int 0, .int 0, .int 0, .ref g34, .ref g35, .ref g36, .ref g37, .ref g38, .int 0, .int 0, .int 0, .int 0, .ref g39, .ref g40, .ref g41, .ref g42, .int 0, .ref g43, .ref g44, .ref g45, .int 0, .ref g46, .int 0, .ref g47, .int 0, .int 0, .int 0, .int 0, .int 0, .int 0, .ref g48, .int 0, .int 0, .ref g49, .ref g50, .ref g51, .ref g52, .ref g53, .ref g54, .ref g55, .int 0, .int 0, .ref g56, .ref g57, .ref g58, .ref g59, .int 0, .int 0, .ref g60, .ref g61, .int 0, .int 0, .ref g62, .ref g63, .ref g64, .ref g65, .ref g66, .ref g67, .ref g68, .ref g69, .ref g70, .ref g71, .ref g72, .int 0, .ref g73, .int 0, .ref g74]))] (fun r w => r = (-1)) := by
  refine zMi.intro (by decide) (Nat.le_of_ble_eq_true rfl) (fun X hC hR => ?_)
  refine z_aload_n hC (pc := 0) 0 dX14_end_0 rfl rfl ?_
  refine z_iconst hC (pc := 1) (v := 0) dX14_end_1 (by decide) ?_
  refine z_put hC (pc := 2) zf14 0 0 [(h0, .inr (14, [.int 0, .ref g2, .ref g3, .int 0, .ref g4, .ref g5, .ref g6, .null, .null, .null, .int 0, .int 0, .int 0, .int 0, .int 0, .null, .int 0, .int 0, .int 0, .int 0, .ref g7, .int 0, .int 0, .int 0, .int 0, .int 0, .ref g8, .ref g9, .int 0, .int 0, .int 0, .int 0, .int (-1), .int (-1), .ref g10, .ref g11, .ref g12, .ref g13, .int 0, .int 0, .ref g14, .int 0, .int 0, .int 0, .int 0, .int 0, .ref g15, .ref g16, .ref g17, .ref g18, .ref g19, .ref g20, .ref g21, .ref g22, .ref g23, .ref g24, .ref g25, .ref g26, .ref g27, .ref g28, .int 0, .ref g29, .ref g30, .ref g31, .ref g32, .int 0, .int 0, .int 0, .int 0, .ref g33, .int 0, .int 0, .int 0, .int 0, .int 0, .ref g34, .ref g35, .ref g36, .ref g37, .ref g38, .int 0, .int 0, .int 0, .int 0, .ref g39, .ref g40, .ref g41, .ref g42, .int 0, .ref g43, .ref g44, .ref g45, .int 0, .ref g46, .int 0, .ref g47, .int 0, .int 0, .int 0, .int 0, .int 0, .int 0, .ref g48, .int 0, .int 0, .ref g49, .ref g50, .ref g51, .ref g52, .ref g53, .ref g54, .ref g55, .int 0, .int 0, .ref g56, .ref g57, .ref g58, .ref g59, .int 0, .int 0, .ref g60, .ref g61, .int 0, .int 0, .ref g62, .ref g63, .ref g64, .ref g65, .ref g66, .ref g67, .ref g68, .ref g69, .ref g70, .ref g71, .ref g72, .int 0, .ref g73, .int 0, .ref g74]))] dX14_end_2 zw2468 rfl rfl rfl rfl rfl (kk := ?_)
  refine z_iload_n hC (pc := 5) 1 dX14_end_5 rfl rfl ?_
  refine z_if_ltT hC (pc := 6) 27 dX14_end_6 (by decide) hy1 ?_
  refine z_iconst hC (pc := 27) (v := (-1)) dX14_end_27 (by decide) ?_
  exact hR _ _ _ _ _ _ dX14_end_28 rfl (Nat.le_of_ble_eq_true rfl) (Nat.le_of_ble_eq_true rfl) rfl
set_option maxRecDepth 100000 in
theorem pend1_c (l : Launch) (G : zG) (h0 : Nat) (x1 : Int32) (g2 : Nat) (g3 : Nat) (g4 : Nat) (g5 : Nat) (g6 : Nat) (g7 : Nat) (g8 : Nat) (g9 : Nat) (g10 : Nat) (g11 : Nat) (g12 : Nat) (hy1 : ¬ x1 < 0) (hy2 : 20 < x1) : zMi l G yX12_end cX12_end 3 .int 0 0 0 0 [.ref h0, .int x1] [(h0, .inr (12, [.ref g2, .ref g3, .int 0, .ref g4, .ref g5, .ref g6, .ref g7, .ref g8, .ref g9, .ref g10, .ref g11, .ref g12, .int 0, .int 0, .int (-1), .int (-1), .int 0, .int 0, .int 0]))] (fun r w => r = (-1)) := by
  refine zMi.intro (by decide) (Nat.le_of_ble_eq_true rfl) (fun X hC hR => ?_)
  refine z_iload_n hC (pc := 0) 1 dX12_end_0 rfl rfl ?_
  refine z_if_ltF hC (pc := 1) 22 dX12_end_1 (by decide) hy1 ?_
  refine z_iload_n hC (pc := 4) 1 dX12_end_4 rfl rfl ?_
  refine z_bipush hC (pc := 5) (v := 20) dX12_end_5 (by decide) ?_
  refine z_icmp_gtT hC (pc := 7) 22 dX12_end_7 (by decide) hy2 ?_
  refine z_iconst hC (pc := 22) (v := (-1)) dX12_end_22 (by decide) ?_
  exact hR _ _ _ _ _ _ dX12_end_23 rfl (Nat.le_of_ble_eq_true rfl) (Nat.le_of_ble_eq_true rfl) rfl
set_option maxRecDepth 100000 in
theorem pend1_m (l : Launch) (G : zG) (h0 : Nat) (x1 : Int32) (g2 : Nat) (g3 : Nat) (g4 : Nat) (g5 : Nat) (g6 : Nat) (g7 : Nat) (g8 : Nat) (g9 : Nat) (g10 : Nat) (g11 : Nat) (g12 : Nat) (g13 : Nat) (g14 : Nat) (g15 : Nat) (g16 : Nat) (g17 : Nat) (g18 : Nat) (g19 : Nat) (g20 : Nat) (g21 : Nat) (g22 : Nat) (g23 : Nat) (g24 : Nat) (g25 : Nat) (g26 : Nat) (g27 : Nat) (g28 : Nat) (g29 : Nat) (g30 : Nat) (g31 : Nat) (g32 : Nat) (g33 : Nat) (g34 : Nat) (g35 : Nat) (g36 : Nat) (g37 : Nat) (g38 : Nat) (g39 : Nat) (g40 : Nat) (g41 : Nat) (g42 : Nat) (g43 : Nat) (g44 : Nat) (g45 : Nat) (g46 : Nat) (g47 : Nat) (g48 : Nat) (g49 : Nat) (g50 : Nat) (g51 : Nat) (g52 : Nat) (g53 : Nat) (g54 : Nat) (g55 : Nat) (g56 : Nat) (g57 : Nat) (g58 : Nat) (g59 : Nat) (g60 : Nat) (g61 : Nat) (g62 : Nat) (g63 : Nat) (g64 : Nat) (g65 : Nat) (g66 : Nat) (g67 : Nat) (g68 : Nat) (g69 : Nat) (g70 : Nat) (g71 : Nat) (g72 : Nat) (g73 : Nat) (g74 : Nat) (hy1 : ¬ x1 < 0) (hy2 : 20 < x1) : zMi l G yX14_end cX14_end 3 .int 0 0 0 0 [.ref h0, .int x1] [(h0, .inr (14, [.int 0, .ref g2, .ref g3, .int 0, .ref g4, .ref g5, .ref g6, .null, .null, .null, .int 0, .int 0, .int 0, .int 0, .int 0, .null, .int 0, .int 0, .int 0, .int 0, .ref g7, .int 0, .int 0, .int 0, .int 0, .int 0, .ref g8, .ref g9, .int 0, .int 0, .int 0, .int 0, .int (-1), .int (-1), .ref g10, .ref g11, .ref g12, .ref g13, .int 0, .int 0, .ref g14, .int 0, .int 0, .int 0, .int 0, .int 0, .ref g15, .ref g16, .ref g17, .ref g18, .ref g19, .ref g20, .ref g21, .ref g22, .ref g23, .ref g24, .ref g25, .ref g26, .ref g27, .ref g28, .int 0, .ref g29, .ref g30, .ref g31, .ref g32, .int 0, .int 0, .int 0, .int 0, .ref g33, .int 0, .int 0, .int 0, .int 0, .int 0, .ref g34, .ref g35, .ref g36, .ref g37, .ref g38, .int 0, .int 0, .int 0, .int 0, .ref g39, .ref g40, .ref g41, .ref g42, .int 0, .ref g43, .ref g44, .ref g45, .int 0, .ref g46, .int 0, .ref g47, .int 0, .int 0, .int 0, .int 0, .int 0, .int 0, .ref g48, .int 0, .int 0, .ref g49, .ref g50, .ref g51, .ref g52, .ref g53, .ref g54, .ref g55, .int 0, .int 0, .ref g56, .ref g57, .ref g58, .ref g59, .int 0, .int 0, .ref g60, .ref g61, .int 0, .int 0, .ref g62, .ref g63, .ref g64, .ref g65, .ref g66, .ref g67, .ref g68, .ref g69, .ref g70, .ref g71, .ref g72, .int 0, .ref g73, .int 0, .ref g74]))] (fun r w => r = (-1)) := by
  refine zMi.intro (by decide) (Nat.le_of_ble_eq_true rfl) (fun X hC hR => ?_)
  refine z_aload_n hC (pc := 0) 0 dX14_end_0 rfl rfl ?_
  refine z_iconst hC (pc := 1) (v := 0) dX14_end_1 (by decide) ?_
  refine z_put hC (pc := 2) zf14 0 0 [(h0, .inr (14, [.int 0, .ref g2, .ref g3, .int 0, .ref g4, .ref g5, .ref g6, .null, .null, .null, .int 0, .int 0, .int 0, .int 0, .int 0, .null, .int 0, .int 0, .int 0, .int 0, .ref g7, .int 0, .int 0, .int 0, .int 0, .int 0, .ref g8, .ref g9, .int 0, .int 0, .int 0, .int 0, .int (-1), .int (-1), .ref g10, .ref g11, .ref g12, .ref g13, .int 0, .int 0, .ref g14, .int 0, .int 0, .int 0, .int 0, .int 0, .ref g15, .ref g16, .ref g17, .ref g18, .ref g19, .ref g20, .ref g21, .ref g22, .ref g23, .ref g24, .ref g25, .ref g26, .ref g27, .ref g28, .int 0, .ref g29, .ref g30, .ref g31, .ref g32, .int 0, .int 0, .int 0, .int 0, .ref g33, .int 0, .int 0, .int 0, .int 0, .int 0, .ref g34, .ref g35, .ref g36, .ref g37, .ref g38, .int 0, .int 0, .int 0, .int 0, .ref g39, .ref g40, .ref g41, .ref g42, .int 0, .ref g43, .ref g44, .ref g45, .int 0, .ref g46, .int 0, .ref g47, .int 0, .int 0, .int 0, .int 0, .int 0, .int 0, .ref g48, .int 0, .int 0, .ref g49, .ref g50, .ref g51, .ref g52, .ref g53, .ref g54, .ref g55, .int 0, .int 0, .ref g56, .ref g57, .ref g58, .ref g59, .int 0, .int 0, .ref g60, .ref g61, .int 0, .int 0, .ref g62, .ref g63, .ref g64, .ref g65, .ref g66, .ref g67, .ref g68, .ref g69, .ref g70, .ref g71, .ref g72, .int 0, .ref g73, .int 0, .ref g74]))] dX14_end_2 zw2468 rfl rfl rfl rfl rfl (kk := ?_)
  refine z_iload_n hC (pc := 5) 1 dX14_end_5 rfl rfl ?_
  refine z_if_ltF hC (pc := 6) 27 dX14_end_6 (by decide) hy1 ?_
  refine z_iload_n hC (pc := 9) 1 dX14_end_9 rfl rfl ?_
  refine z_bipush hC (pc := 10) (v := 20) dX14_end_10 (by decide) ?_
  refine z_icmp_gtT hC (pc := 12) 27 dX14_end_12 (by decide) hy2 ?_
  refine z_iconst hC (pc := 27) (v := (-1)) dX14_end_27 (by decide) ?_
  exact hR _ _ _ _ _ _ dX14_end_28 rfl (Nat.le_of_ble_eq_true rfl) (Nat.le_of_ble_eq_true rfl) rfl
set_option maxRecDepth 100000 in
theorem kX12_getByte_78 (l : Launch) (G : zG) (h0 : Nat) : zMi l G yX12_getByte cX12_getByte 2 .int 0 0 0 0 [.ref h0, .int 0] [(h0, .inl (G.2.1 1, 20, .inl (fun _ => 0)))] (fun r w => r = 0 ∧ w = [(h0, .inl (G.2.1 1, 20, .inl (fun _ => 0)))]) := by
  refine zMi.intro (by decide) (Nat.le_of_ble_eq_true rfl) (fun X hC hR => ?_)
  refine z_iload_n hC (pc := 0) 1 dX12_getByte_0 rfl rfl ?_
  refine z_if_ltF hC (pc := 1) 20 dX12_getByte_1 (by decide) (by decide) ?_
  refine z_iload_n hC (pc := 4) 1 dX12_getByte_4 rfl rfl ?_
  refine z_aload_n hC (pc := 5) 0 dX12_getByte_5 rfl rfl ?_
  refine z_alen1 hC (pc := 6) (v := 20) 0 dX12_getByte_6 rfl rfl ?_
  refine z_icmp_geF hC (pc := 7) 20 dX12_getByte_7 (by decide) (by decide) ?_
  refine z_aload_n hC (pc := 10) 0 dX12_getByte_10 rfl rfl ?_
  refine z_iload_n hC (pc := 11) 1 dX12_getByte_11 rfl rfl ?_
  refine z_bald hC (pc := 12) (v := 0) 0 dX12_getByte_12 rfl (zvi rfl) rfl ?_
  refine z_sipush hC (pc := 13) (v := 255) dX12_getByte_13 (by decide) ?_
  refine z_iand hC (pc := 16) (v := 0) dX12_getByte_16 (by decide) ?_
  refine z_goto hC (pc := 17) 21 dX12_getByte_17 (by decide) ?_
  exact hR _ _ _ _ _ _ dX12_getByte_21 rfl (Nat.le_of_ble_eq_true rfl) (Nat.le_of_ble_eq_true rfl) ⟨rfl, rfl⟩
set_option maxRecDepth 100000 in
theorem kX12_setByte_79 (l : Launch) (G : zG) (h0 : Nat) : zMv l G yX12_setByte cX12_setByte 3 0 0 0 0 [.ref h0, .int 0, .int 0] [(h0, .inl (G.2.1 1, 4000, .inl (fun _ => 0)))] (fun w => w = [(h0, .inl (G.2.1 1, 4000, .inl (upd (fun _ => 0) 0 0)))]) := by
  refine zMv.intro (by decide) (Nat.le_of_ble_eq_true rfl) (fun X hC hR => ?_)
  refine z_iload_n hC (pc := 0) 1 dX12_setByte_0 rfl rfl ?_
  refine z_if_ltF hC (pc := 1) 15 dX12_setByte_1 (by decide) (by decide) ?_
  refine z_iload_n hC (pc := 4) 1 dX12_setByte_4 rfl rfl ?_
  refine z_aload_n hC (pc := 5) 0 dX12_setByte_5 rfl rfl ?_
  refine z_alen1 hC (pc := 6) (v := 4000) 0 dX12_setByte_6 rfl rfl ?_
  refine z_icmp_geF hC (pc := 7) 15 dX12_setByte_7 (by decide) (by decide) ?_
  refine z_aload_n hC (pc := 10) 0 dX12_setByte_10 rfl rfl ?_
  refine z_iload_n hC (pc := 11) 1 dX12_setByte_11 rfl rfl ?_
  refine z_iload_n hC (pc := 12) 2 dX12_setByte_12 rfl rfl ?_
  refine z_i2b hC (pc := 13) (v := 0) dX12_setByte_13 (by decide) ?_
  refine z_bast hC (pc := 14) (f' := (upd (fun _ => 0) 0 0)) 0 [(h0, .inl (G.2.1 1, 4000, .inl (upd (fun _ => 0) 0 0)))] dX12_setByte_14 rfl (zvi rfl) rfl rfl ?_
  exact hR _ _ _ _ _ dX12_setByte_15 (Nat.le_of_ble_eq_true rfl) (Nat.le_of_ble_eq_true rfl) rfl
set_option maxRecDepth 100000 in
theorem kX12_getByte_80 (l : Launch) (G : zG) (h0 : Nat) : zMi l G yX12_getByte cX12_getByte 2 .int 0 0 0 0 [.ref h0, .int 1] [(h0, .inl (G.2.1 1, 20, .inl (fun _ => 0)))] (fun r w => r = 0 ∧ w = [(h0, .inl (G.2.1 1, 20, .inl (fun _ => 0)))]) := by
  refine zMi.intro (by decide) (Nat.le_of_ble_eq_true rfl) (fun X hC hR => ?_)
  refine z_iload_n hC (pc := 0) 1 dX12_getByte_0 rfl rfl ?_
  refine z_if_ltF hC (pc := 1) 20 dX12_getByte_1 (by decide) (by decide) ?_
  refine z_iload_n hC (pc := 4) 1 dX12_getByte_4 rfl rfl ?_
  refine z_aload_n hC (pc := 5) 0 dX12_getByte_5 rfl rfl ?_
  refine z_alen1 hC (pc := 6) (v := 20) 0 dX12_getByte_6 rfl rfl ?_
  refine z_icmp_geF hC (pc := 7) 20 dX12_getByte_7 (by decide) (by decide) ?_
  refine z_aload_n hC (pc := 10) 0 dX12_getByte_10 rfl rfl ?_
  refine z_iload_n hC (pc := 11) 1 dX12_getByte_11 rfl rfl ?_
  refine z_bald hC (pc := 12) (v := 0) 0 dX12_getByte_12 rfl (zvi rfl) rfl ?_
  refine z_sipush hC (pc := 13) (v := 255) dX12_getByte_13 (by decide) ?_
  refine z_iand hC (pc := 16) (v := 0) dX12_getByte_16 (by decide) ?_
  refine z_goto hC (pc := 17) 21 dX12_getByte_17 (by decide) ?_
  exact hR _ _ _ _ _ _ dX12_getByte_21 rfl (Nat.le_of_ble_eq_true rfl) (Nat.le_of_ble_eq_true rfl) ⟨rfl, rfl⟩
set_option maxRecDepth 100000 in
theorem kX12_setByte_81 (l : Launch) (G : zG) (h0 : Nat) : zMv l G yX12_setByte cX12_setByte 3 0 0 0 0 [.ref h0, .int 1, .int 0] [(h0, .inl (G.2.1 1, 4000, .inl (upd (fun _ => 0) 0 0)))] (fun w => w = [(h0, .inl (G.2.1 1, 4000, .inl (upd (upd (fun _ => 0) 0 0) 1 0)))]) := by
  refine zMv.intro (by decide) (Nat.le_of_ble_eq_true rfl) (fun X hC hR => ?_)
  refine z_iload_n hC (pc := 0) 1 dX12_setByte_0 rfl rfl ?_
  refine z_if_ltF hC (pc := 1) 15 dX12_setByte_1 (by decide) (by decide) ?_
  refine z_iload_n hC (pc := 4) 1 dX12_setByte_4 rfl rfl ?_
  refine z_aload_n hC (pc := 5) 0 dX12_setByte_5 rfl rfl ?_
  refine z_alen1 hC (pc := 6) (v := 4000) 0 dX12_setByte_6 rfl rfl ?_
  refine z_icmp_geF hC (pc := 7) 15 dX12_setByte_7 (by decide) (by decide) ?_
  refine z_aload_n hC (pc := 10) 0 dX12_setByte_10 rfl rfl ?_
  refine z_iload_n hC (pc := 11) 1 dX12_setByte_11 rfl rfl ?_
  refine z_iload_n hC (pc := 12) 2 dX12_setByte_12 rfl rfl ?_
  refine z_i2b hC (pc := 13) (v := 0) dX12_setByte_13 (by decide) ?_
  refine z_bast hC (pc := 14) (f' := (upd (upd (fun _ => 0) 0 0) 1 0)) 0 [(h0, .inl (G.2.1 1, 4000, .inl (upd (upd (fun _ => 0) 0 0) 1 0)))] dX12_setByte_14 rfl (zvi rfl) rfl rfl ?_
  exact hR _ _ _ _ _ dX12_setByte_15 (Nat.le_of_ble_eq_true rfl) (Nat.le_of_ble_eq_true rfl) rfl
set_option maxRecDepth 100000 in
theorem kX12_getByte_82 (l : Launch) (G : zG) (h0 : Nat) : zMi l G yX12_getByte cX12_getByte 2 .int 0 0 0 0 [.ref h0, .int 2] [(h0, .inl (G.2.1 1, 20, .inl (fun _ => 0)))] (fun r w => r = 0 ∧ w = [(h0, .inl (G.2.1 1, 20, .inl (fun _ => 0)))]) := by
  refine zMi.intro (by decide) (Nat.le_of_ble_eq_true rfl) (fun X hC hR => ?_)
  refine z_iload_n hC (pc := 0) 1 dX12_getByte_0 rfl rfl ?_
  refine z_if_ltF hC (pc := 1) 20 dX12_getByte_1 (by decide) (by decide) ?_
  refine z_iload_n hC (pc := 4) 1 dX12_getByte_4 rfl rfl ?_
  refine z_aload_n hC (pc := 5) 0 dX12_getByte_5 rfl rfl ?_
  refine z_alen1 hC (pc := 6) (v := 20) 0 dX12_getByte_6 rfl rfl ?_
  refine z_icmp_geF hC (pc := 7) 20 dX12_getByte_7 (by decide) (by decide) ?_
  refine z_aload_n hC (pc := 10) 0 dX12_getByte_10 rfl rfl ?_
  refine z_iload_n hC (pc := 11) 1 dX12_getByte_11 rfl rfl ?_
  refine z_bald hC (pc := 12) (v := 0) 0 dX12_getByte_12 rfl (zvi rfl) rfl ?_
  refine z_sipush hC (pc := 13) (v := 255) dX12_getByte_13 (by decide) ?_
  refine z_iand hC (pc := 16) (v := 0) dX12_getByte_16 (by decide) ?_
  refine z_goto hC (pc := 17) 21 dX12_getByte_17 (by decide) ?_
  exact hR _ _ _ _ _ _ dX12_getByte_21 rfl (Nat.le_of_ble_eq_true rfl) (Nat.le_of_ble_eq_true rfl) ⟨rfl, rfl⟩
set_option maxRecDepth 100000 in
theorem kX12_setByte_83 (l : Launch) (G : zG) (h0 : Nat) : zMv l G yX12_setByte cX12_setByte 3 0 0 0 0 [.ref h0, .int 2, .int 0] [(h0, .inl (G.2.1 1, 4000, .inl (upd (upd (fun _ => 0) 0 0) 1 0)))] (fun w => w = [(h0, .inl (G.2.1 1, 4000, .inl (upd (upd (upd (fun _ => 0) 0 0) 1 0) 2 0)))]) := by
  refine zMv.intro (by decide) (Nat.le_of_ble_eq_true rfl) (fun X hC hR => ?_)
  refine z_iload_n hC (pc := 0) 1 dX12_setByte_0 rfl rfl ?_
  refine z_if_ltF hC (pc := 1) 15 dX12_setByte_1 (by decide) (by decide) ?_
  refine z_iload_n hC (pc := 4) 1 dX12_setByte_4 rfl rfl ?_
  refine z_aload_n hC (pc := 5) 0 dX12_setByte_5 rfl rfl ?_
  refine z_alen1 hC (pc := 6) (v := 4000) 0 dX12_setByte_6 rfl rfl ?_
  refine z_icmp_geF hC (pc := 7) 15 dX12_setByte_7 (by decide) (by decide) ?_
  refine z_aload_n hC (pc := 10) 0 dX12_setByte_10 rfl rfl ?_
  refine z_iload_n hC (pc := 11) 1 dX12_setByte_11 rfl rfl ?_
  refine z_iload_n hC (pc := 12) 2 dX12_setByte_12 rfl rfl ?_
  refine z_i2b hC (pc := 13) (v := 0) dX12_setByte_13 (by decide) ?_
  refine z_bast hC (pc := 14) (f' := (upd (upd (upd (fun _ => 0) 0 0) 1 0) 2 0)) 0 [(h0, .inl (G.2.1 1, 4000, .inl (upd (upd (upd (fun _ => 0) 0 0) 1 0) 2 0)))] dX12_setByte_14 rfl (zvi rfl) rfl rfl ?_
  exact hR _ _ _ _ _ dX12_setByte_15 (Nat.le_of_ble_eq_true rfl) (Nat.le_of_ble_eq_true rfl) rfl
set_option maxRecDepth 100000 in
theorem kX12_getByte_84 (l : Launch) (G : zG) (h0 : Nat) : zMi l G yX12_getByte cX12_getByte 2 .int 0 0 0 0 [.ref h0, .int 3] [(h0, .inl (G.2.1 1, 20, .inl (fun _ => 0)))] (fun r w => r = 0 ∧ w = [(h0, .inl (G.2.1 1, 20, .inl (fun _ => 0)))]) := by
  refine zMi.intro (by decide) (Nat.le_of_ble_eq_true rfl) (fun X hC hR => ?_)
  refine z_iload_n hC (pc := 0) 1 dX12_getByte_0 rfl rfl ?_
  refine z_if_ltF hC (pc := 1) 20 dX12_getByte_1 (by decide) (by decide) ?_
  refine z_iload_n hC (pc := 4) 1 dX12_getByte_4 rfl rfl ?_
  refine z_aload_n hC (pc := 5) 0 dX12_getByte_5 rfl rfl ?_
  refine z_alen1 hC (pc := 6) (v := 20) 0 dX12_getByte_6 rfl rfl ?_
  refine z_icmp_geF hC (pc := 7) 20 dX12_getByte_7 (by decide) (by decide) ?_
  refine z_aload_n hC (pc := 10) 0 dX12_getByte_10 rfl rfl ?_
  refine z_iload_n hC (pc := 11) 1 dX12_getByte_11 rfl rfl ?_
  refine z_bald hC (pc := 12) (v := 0) 0 dX12_getByte_12 rfl (zvi rfl) rfl ?_
  refine z_sipush hC (pc := 13) (v := 255) dX12_getByte_13 (by decide) ?_
  refine z_iand hC (pc := 16) (v := 0) dX12_getByte_16 (by decide) ?_
  refine z_goto hC (pc := 17) 21 dX12_getByte_17 (by decide) ?_
  exact hR _ _ _ _ _ _ dX12_getByte_21 rfl (Nat.le_of_ble_eq_true rfl) (Nat.le_of_ble_eq_true rfl) ⟨rfl, rfl⟩
set_option maxRecDepth 100000 in
theorem kX12_setByte_85 (l : Launch) (G : zG) (h0 : Nat) : zMv l G yX12_setByte cX12_setByte 3 0 0 0 0 [.ref h0, .int 3, .int 0] [(h0, .inl (G.2.1 1, 4000, .inl (upd (upd (upd (fun _ => 0) 0 0) 1 0) 2 0)))] (fun w => w = [(h0, .inl (G.2.1 1, 4000, .inl (upd (upd (upd (upd (fun _ => 0) 0 0) 1 0) 2 0) 3 0)))]) := by
  refine zMv.intro (by decide) (Nat.le_of_ble_eq_true rfl) (fun X hC hR => ?_)
  refine z_iload_n hC (pc := 0) 1 dX12_setByte_0 rfl rfl ?_
  refine z_if_ltF hC (pc := 1) 15 dX12_setByte_1 (by decide) (by decide) ?_
  refine z_iload_n hC (pc := 4) 1 dX12_setByte_4 rfl rfl ?_
  refine z_aload_n hC (pc := 5) 0 dX12_setByte_5 rfl rfl ?_
  refine z_alen1 hC (pc := 6) (v := 4000) 0 dX12_setByte_6 rfl rfl ?_
  refine z_icmp_geF hC (pc := 7) 15 dX12_setByte_7 (by decide) (by decide) ?_
  refine z_aload_n hC (pc := 10) 0 dX12_setByte_10 rfl rfl ?_
  refine z_iload_n hC (pc := 11) 1 dX12_setByte_11 rfl rfl ?_
  refine z_iload_n hC (pc := 12) 2 dX12_setByte_12 rfl rfl ?_
  refine z_i2b hC (pc := 13) (v := 0) dX12_setByte_13 (by decide) ?_
  refine z_bast hC (pc := 14) (f' := (upd (upd (upd (upd (fun _ => 0) 0 0) 1 0) 2 0) 3 0)) 0 [(h0, .inl (G.2.1 1, 4000, .inl (upd (upd (upd (upd (fun _ => 0) 0 0) 1 0) 2 0) 3 0)))] dX12_setByte_14 rfl (zvi rfl) rfl rfl ?_
  exact hR _ _ _ _ _ dX12_setByte_15 (Nat.le_of_ble_eq_true rfl) (Nat.le_of_ble_eq_true rfl) rfl
set_option maxRecDepth 100000 in
theorem kX12_getByte_86 (l : Launch) (G : zG) (h0 : Nat) : zMi l G yX12_getByte cX12_getByte 2 .int 0 0 0 0 [.ref h0, .int 4] [(h0, .inl (G.2.1 1, 20, .inl (fun _ => 0)))] (fun r w => r = 0 ∧ w = [(h0, .inl (G.2.1 1, 20, .inl (fun _ => 0)))]) := by
  refine zMi.intro (by decide) (Nat.le_of_ble_eq_true rfl) (fun X hC hR => ?_)
  refine z_iload_n hC (pc := 0) 1 dX12_getByte_0 rfl rfl ?_
  refine z_if_ltF hC (pc := 1) 20 dX12_getByte_1 (by decide) (by decide) ?_
  refine z_iload_n hC (pc := 4) 1 dX12_getByte_4 rfl rfl ?_
  refine z_aload_n hC (pc := 5) 0 dX12_getByte_5 rfl rfl ?_
  refine z_alen1 hC (pc := 6) (v := 20) 0 dX12_getByte_6 rfl rfl ?_
  refine z_icmp_geF hC (pc := 7) 20 dX12_getByte_7 (by decide) (by decide) ?_
  refine z_aload_n hC (pc := 10) 0 dX12_getByte_10 rfl rfl ?_
  refine z_iload_n hC (pc := 11) 1 dX12_getByte_11 rfl rfl ?_
  refine z_bald hC (pc := 12) (v := 0) 0 dX12_getByte_12 rfl (zvi rfl) rfl ?_
  refine z_sipush hC (pc := 13) (v := 255) dX12_getByte_13 (by decide) ?_
  refine z_iand hC (pc := 16) (v := 0) dX12_getByte_16 (by decide) ?_
  refine z_goto hC (pc := 17) 21 dX12_getByte_17 (by decide) ?_
  exact hR _ _ _ _ _ _ dX12_getByte_21 rfl (Nat.le_of_ble_eq_true rfl) (Nat.le_of_ble_eq_true rfl) ⟨rfl, rfl⟩
set_option maxRecDepth 100000 in
theorem kX12_setByte_87 (l : Launch) (G : zG) (h0 : Nat) : zMv l G yX12_setByte cX12_setByte 3 0 0 0 0 [.ref h0, .int 4, .int 0] [(h0, .inl (G.2.1 1, 4000, .inl (upd (upd (upd (upd (fun _ => 0) 0 0) 1 0) 2 0) 3 0)))] (fun w => w = [(h0, .inl (G.2.1 1, 4000, .inl (upd (upd (upd (upd (upd (fun _ => 0) 0 0) 1 0) 2 0) 3 0) 4 0)))]) := by
  refine zMv.intro (by decide) (Nat.le_of_ble_eq_true rfl) (fun X hC hR => ?_)
  refine z_iload_n hC (pc := 0) 1 dX12_setByte_0 rfl rfl ?_
  refine z_if_ltF hC (pc := 1) 15 dX12_setByte_1 (by decide) (by decide) ?_
  refine z_iload_n hC (pc := 4) 1 dX12_setByte_4 rfl rfl ?_
  refine z_aload_n hC (pc := 5) 0 dX12_setByte_5 rfl rfl ?_
  refine z_alen1 hC (pc := 6) (v := 4000) 0 dX12_setByte_6 rfl rfl ?_
  refine z_icmp_geF hC (pc := 7) 15 dX12_setByte_7 (by decide) (by decide) ?_
  refine z_aload_n hC (pc := 10) 0 dX12_setByte_10 rfl rfl ?_
  refine z_iload_n hC (pc := 11) 1 dX12_setByte_11 rfl rfl ?_
  refine z_iload_n hC (pc := 12) 2 dX12_setByte_12 rfl rfl ?_
  refine z_i2b hC (pc := 13) (v := 0) dX12_setByte_13 (by decide) ?_
  refine z_bast hC (pc := 14) (f' := (upd (upd (upd (upd (upd (fun _ => 0) 0 0) 1 0) 2 0) 3 0) 4 0)) 0 [(h0, .inl (G.2.1 1, 4000, .inl (upd (upd (upd (upd (upd (fun _ => 0) 0 0) 1 0) 2 0) 3 0) 4 0)))] dX12_setByte_14 rfl (zvi rfl) rfl rfl ?_
  exact hR _ _ _ _ _ dX12_setByte_15 (Nat.le_of_ble_eq_true rfl) (Nat.le_of_ble_eq_true rfl) rfl
set_option maxRecDepth 100000 in
theorem kX12_getByte_88 (l : Launch) (G : zG) (h0 : Nat) : zMi l G yX12_getByte cX12_getByte 2 .int 0 0 0 0 [.ref h0, .int 5] [(h0, .inl (G.2.1 1, 20, .inl (fun _ => 0)))] (fun r w => r = 0 ∧ w = [(h0, .inl (G.2.1 1, 20, .inl (fun _ => 0)))]) := by
  refine zMi.intro (by decide) (Nat.le_of_ble_eq_true rfl) (fun X hC hR => ?_)
  refine z_iload_n hC (pc := 0) 1 dX12_getByte_0 rfl rfl ?_
  refine z_if_ltF hC (pc := 1) 20 dX12_getByte_1 (by decide) (by decide) ?_
  refine z_iload_n hC (pc := 4) 1 dX12_getByte_4 rfl rfl ?_
  refine z_aload_n hC (pc := 5) 0 dX12_getByte_5 rfl rfl ?_
  refine z_alen1 hC (pc := 6) (v := 20) 0 dX12_getByte_6 rfl rfl ?_
  refine z_icmp_geF hC (pc := 7) 20 dX12_getByte_7 (by decide) (by decide) ?_
  refine z_aload_n hC (pc := 10) 0 dX12_getByte_10 rfl rfl ?_
  refine z_iload_n hC (pc := 11) 1 dX12_getByte_11 rfl rfl ?_
  refine z_bald hC (pc := 12) (v := 0) 0 dX12_getByte_12 rfl (zvi rfl) rfl ?_
  refine z_sipush hC (pc := 13) (v := 255) dX12_getByte_13 (by decide) ?_
  refine z_iand hC (pc := 16) (v := 0) dX12_getByte_16 (by decide) ?_
  refine z_goto hC (pc := 17) 21 dX12_getByte_17 (by decide) ?_
  exact hR _ _ _ _ _ _ dX12_getByte_21 rfl (Nat.le_of_ble_eq_true rfl) (Nat.le_of_ble_eq_true rfl) ⟨rfl, rfl⟩
set_option maxRecDepth 100000 in
theorem kX12_setByte_89 (l : Launch) (G : zG) (h0 : Nat) : zMv l G yX12_setByte cX12_setByte 3 0 0 0 0 [.ref h0, .int 5, .int 0] [(h0, .inl (G.2.1 1, 4000, .inl (upd (upd (upd (upd (upd (fun _ => 0) 0 0) 1 0) 2 0) 3 0) 4 0)))] (fun w => w = [(h0, .inl (G.2.1 1, 4000, .inl (upd (upd (upd (upd (upd (upd (fun _ => 0) 0 0) 1 0) 2 0) 3 0) 4 0) 5 0)))]) := by
  refine zMv.intro (by decide) (Nat.le_of_ble_eq_true rfl) (fun X hC hR => ?_)
  refine z_iload_n hC (pc := 0) 1 dX12_setByte_0 rfl rfl ?_
  refine z_if_ltF hC (pc := 1) 15 dX12_setByte_1 (by decide) (by decide) ?_
  refine z_iload_n hC (pc := 4) 1 dX12_setByte_4 rfl rfl ?_
  refine z_aload_n hC (pc := 5) 0 dX12_setByte_5 rfl rfl ?_
  refine z_alen1 hC (pc := 6) (v := 4000) 0 dX12_setByte_6 rfl rfl ?_
  refine z_icmp_geF hC (pc := 7) 15 dX12_setByte_7 (by decide) (by decide) ?_
  refine z_aload_n hC (pc := 10) 0 dX12_setByte_10 rfl rfl ?_
  refine z_iload_n hC (pc := 11) 1 dX12_setByte_11 rfl rfl ?_
  refine z_iload_n hC (pc := 12) 2 dX12_setByte_12 rfl rfl ?_
  refine z_i2b hC (pc := 13) (v := 0) dX12_setByte_13 (by decide) ?_
  refine z_bast hC (pc := 14) (f' := (upd (upd (upd (upd (upd (upd (fun _ => 0) 0 0) 1 0) 2 0) 3 0) 4 0) 5 0)) 0 [(h0, .inl (G.2.1 1, 4000, .inl (upd (upd (upd (upd (upd (upd (fun _ => 0) 0 0) 1 0) 2 0) 3 0) 4 0) 5 0)))] dX12_setByte_14 rfl (zvi rfl) rfl rfl ?_
  exact hR _ _ _ _ _ dX12_setByte_15 (Nat.le_of_ble_eq_true rfl) (Nat.le_of_ble_eq_true rfl) rfl
set_option maxRecDepth 100000 in
theorem kX12_getByte_90 (l : Launch) (G : zG) (h0 : Nat) : zMi l G yX12_getByte cX12_getByte 2 .int 0 0 0 0 [.ref h0, .int 6] [(h0, .inl (G.2.1 1, 20, .inl (fun _ => 0)))] (fun r w => r = 0 ∧ w = [(h0, .inl (G.2.1 1, 20, .inl (fun _ => 0)))]) := by
  refine zMi.intro (by decide) (Nat.le_of_ble_eq_true rfl) (fun X hC hR => ?_)
  refine z_iload_n hC (pc := 0) 1 dX12_getByte_0 rfl rfl ?_
  refine z_if_ltF hC (pc := 1) 20 dX12_getByte_1 (by decide) (by decide) ?_
  refine z_iload_n hC (pc := 4) 1 dX12_getByte_4 rfl rfl ?_
  refine z_aload_n hC (pc := 5) 0 dX12_getByte_5 rfl rfl ?_
  refine z_alen1 hC (pc := 6) (v := 20) 0 dX12_getByte_6 rfl rfl ?_
  refine z_icmp_geF hC (pc := 7) 20 dX12_getByte_7 (by decide) (by decide) ?_
  refine z_aload_n hC (pc := 10) 0 dX12_getByte_10 rfl rfl ?_
  refine z_iload_n hC (pc := 11) 1 dX12_getByte_11 rfl rfl ?_
  refine z_bald hC (pc := 12) (v := 0) 0 dX12_getByte_12 rfl (zvi rfl) rfl ?_
  refine z_sipush hC (pc := 13) (v := 255) dX12_getByte_13 (by decide) ?_
  refine z_iand hC (pc := 16) (v := 0) dX12_getByte_16 (by decide) ?_
  refine z_goto hC (pc := 17) 21 dX12_getByte_17 (by decide) ?_
  exact hR _ _ _ _ _ _ dX12_getByte_21 rfl (Nat.le_of_ble_eq_true rfl) (Nat.le_of_ble_eq_true rfl) ⟨rfl, rfl⟩
set_option maxRecDepth 100000 in
theorem kX12_setByte_91 (l : Launch) (G : zG) (h0 : Nat) : zMv l G yX12_setByte cX12_setByte 3 0 0 0 0 [.ref h0, .int 6, .int 0] [(h0, .inl (G.2.1 1, 4000, .inl (upd (upd (upd (upd (upd (upd (fun _ => 0) 0 0) 1 0) 2 0) 3 0) 4 0) 5 0)))] (fun w => w = [(h0, .inl (G.2.1 1, 4000, .inl (upd (upd (upd (upd (upd (upd (upd (fun _ => 0) 0 0) 1 0) 2 0) 3 0) 4 0) 5 0) 6 0)))]) := by
  refine zMv.intro (by decide) (Nat.le_of_ble_eq_true rfl) (fun X hC hR => ?_)
  refine z_iload_n hC (pc := 0) 1 dX12_setByte_0 rfl rfl ?_
  refine z_if_ltF hC (pc := 1) 15 dX12_setByte_1 (by decide) (by decide) ?_
  refine z_iload_n hC (pc := 4) 1 dX12_setByte_4 rfl rfl ?_
  refine z_aload_n hC (pc := 5) 0 dX12_setByte_5 rfl rfl ?_
  refine z_alen1 hC (pc := 6) (v := 4000) 0 dX12_setByte_6 rfl rfl ?_
  refine z_icmp_geF hC (pc := 7) 15 dX12_setByte_7 (by decide) (by decide) ?_
  refine z_aload_n hC (pc := 10) 0 dX12_setByte_10 rfl rfl ?_
  refine z_iload_n hC (pc := 11) 1 dX12_setByte_11 rfl rfl ?_
  refine z_iload_n hC (pc := 12) 2 dX12_setByte_12 rfl rfl ?_
  refine z_i2b hC (pc := 13) (v := 0) dX12_setByte_13 (by decide) ?_
  refine z_bast hC (pc := 14) (f' := (upd (upd (upd (upd (upd (upd (upd (fun _ => 0) 0 0) 1 0) 2 0) 3 0) 4 0) 5 0) 6 0)) 0 [(h0, .inl (G.2.1 1, 4000, .inl (upd (upd (upd (upd (upd (upd (upd (fun _ => 0) 0 0) 1 0) 2 0) 3 0) 4 0) 5 0) 6 0)))] dX12_setByte_14 rfl (zvi rfl) rfl rfl ?_
  exact hR _ _ _ _ _ dX12_setByte_15 (Nat.le_of_ble_eq_true rfl) (Nat.le_of_ble_eq_true rfl) rfl
set_option maxRecDepth 100000 in
theorem kX12_getByte_92 (l : Launch) (G : zG) (h0 : Nat) : zMi l G yX12_getByte cX12_getByte 2 .int 0 0 0 0 [.ref h0, .int 7] [(h0, .inl (G.2.1 1, 20, .inl (fun _ => 0)))] (fun r w => r = 0 ∧ w = [(h0, .inl (G.2.1 1, 20, .inl (fun _ => 0)))]) := by
  refine zMi.intro (by decide) (Nat.le_of_ble_eq_true rfl) (fun X hC hR => ?_)
  refine z_iload_n hC (pc := 0) 1 dX12_getByte_0 rfl rfl ?_
  refine z_if_ltF hC (pc := 1) 20 dX12_getByte_1 (by decide) (by decide) ?_
  refine z_iload_n hC (pc := 4) 1 dX12_getByte_4 rfl rfl ?_
  refine z_aload_n hC (pc := 5) 0 dX12_getByte_5 rfl rfl ?_
  refine z_alen1 hC (pc := 6) (v := 20) 0 dX12_getByte_6 rfl rfl ?_
  refine z_icmp_geF hC (pc := 7) 20 dX12_getByte_7 (by decide) (by decide) ?_
  refine z_aload_n hC (pc := 10) 0 dX12_getByte_10 rfl rfl ?_
  refine z_iload_n hC (pc := 11) 1 dX12_getByte_11 rfl rfl ?_
  refine z_bald hC (pc := 12) (v := 0) 0 dX12_getByte_12 rfl (zvi rfl) rfl ?_
  refine z_sipush hC (pc := 13) (v := 255) dX12_getByte_13 (by decide) ?_
  refine z_iand hC (pc := 16) (v := 0) dX12_getByte_16 (by decide) ?_
  refine z_goto hC (pc := 17) 21 dX12_getByte_17 (by decide) ?_
  exact hR _ _ _ _ _ _ dX12_getByte_21 rfl (Nat.le_of_ble_eq_true rfl) (Nat.le_of_ble_eq_true rfl) ⟨rfl, rfl⟩
set_option maxRecDepth 100000 in
theorem kX12_setByte_93 (l : Launch) (G : zG) (h0 : Nat) : zMv l G yX12_setByte cX12_setByte 3 0 0 0 0 [.ref h0, .int 7, .int 0] [(h0, .inl (G.2.1 1, 4000, .inl (upd (upd (upd (upd (upd (upd (upd (fun _ => 0) 0 0) 1 0) 2 0) 3 0) 4 0) 5 0) 6 0)))] (fun w => w = [(h0, .inl (G.2.1 1, 4000, .inl (upd (upd (upd (upd (upd (upd (upd (upd (fun _ => 0) 0 0) 1 0) 2 0) 3 0) 4 0) 5 0) 6 0) 7 0)))]) := by
  refine zMv.intro (by decide) (Nat.le_of_ble_eq_true rfl) (fun X hC hR => ?_)
  refine z_iload_n hC (pc := 0) 1 dX12_setByte_0 rfl rfl ?_
  refine z_if_ltF hC (pc := 1) 15 dX12_setByte_1 (by decide) (by decide) ?_
  refine z_iload_n hC (pc := 4) 1 dX12_setByte_4 rfl rfl ?_
  refine z_aload_n hC (pc := 5) 0 dX12_setByte_5 rfl rfl ?_
  refine z_alen1 hC (pc := 6) (v := 4000) 0 dX12_setByte_6 rfl rfl ?_
  refine z_icmp_geF hC (pc := 7) 15 dX12_setByte_7 (by decide) (by decide) ?_
  refine z_aload_n hC (pc := 10) 0 dX12_setByte_10 rfl rfl ?_
  refine z_iload_n hC (pc := 11) 1 dX12_setByte_11 rfl rfl ?_
  refine z_iload_n hC (pc := 12) 2 dX12_setByte_12 rfl rfl ?_
  refine z_i2b hC (pc := 13) (v := 0) dX12_setByte_13 (by decide) ?_
  refine z_bast hC (pc := 14) (f' := (upd (upd (upd (upd (upd (upd (upd (upd (fun _ => 0) 0 0) 1 0) 2 0) 3 0) 4 0) 5 0) 6 0) 7 0)) 0 [(h0, .inl (G.2.1 1, 4000, .inl (upd (upd (upd (upd (upd (upd (upd (upd (fun _ => 0) 0 0) 1 0) 2 0) 3 0) 4 0) 5 0) 6 0) 7 0)))] dX12_setByte_14 rfl (zvi rfl) rfl rfl ?_
  exact hR _ _ _ _ _ dX12_setByte_15 (Nat.le_of_ble_eq_true rfl) (Nat.le_of_ble_eq_true rfl) rfl
set_option maxRecDepth 100000 in
theorem kX12_getByte_94 (l : Launch) (G : zG) (h0 : Nat) : zMi l G yX12_getByte cX12_getByte 2 .int 0 0 0 0 [.ref h0, .int 8] [(h0, .inl (G.2.1 1, 20, .inl (fun _ => 0)))] (fun r w => r = 0 ∧ w = [(h0, .inl (G.2.1 1, 20, .inl (fun _ => 0)))]) := by
  refine zMi.intro (by decide) (Nat.le_of_ble_eq_true rfl) (fun X hC hR => ?_)
  refine z_iload_n hC (pc := 0) 1 dX12_getByte_0 rfl rfl ?_
  refine z_if_ltF hC (pc := 1) 20 dX12_getByte_1 (by decide) (by decide) ?_
  refine z_iload_n hC (pc := 4) 1 dX12_getByte_4 rfl rfl ?_
  refine z_aload_n hC (pc := 5) 0 dX12_getByte_5 rfl rfl ?_
  refine z_alen1 hC (pc := 6) (v := 20) 0 dX12_getByte_6 rfl rfl ?_
  refine z_icmp_geF hC (pc := 7) 20 dX12_getByte_7 (by decide) (by decide) ?_
  refine z_aload_n hC (pc := 10) 0 dX12_getByte_10 rfl rfl ?_
  refine z_iload_n hC (pc := 11) 1 dX12_getByte_11 rfl rfl ?_
  refine z_bald hC (pc := 12) (v := 0) 0 dX12_getByte_12 rfl (zvi rfl) rfl ?_
  refine z_sipush hC (pc := 13) (v := 255) dX12_getByte_13 (by decide) ?_
  refine z_iand hC (pc := 16) (v := 0) dX12_getByte_16 (by decide) ?_
  refine z_goto hC (pc := 17) 21 dX12_getByte_17 (by decide) ?_
  exact hR _ _ _ _ _ _ dX12_getByte_21 rfl (Nat.le_of_ble_eq_true rfl) (Nat.le_of_ble_eq_true rfl) ⟨rfl, rfl⟩
set_option maxRecDepth 100000 in
theorem kX12_setByte_95 (l : Launch) (G : zG) (h0 : Nat) : zMv l G yX12_setByte cX12_setByte 3 0 0 0 0 [.ref h0, .int 8, .int 0] [(h0, .inl (G.2.1 1, 4000, .inl (upd (upd (upd (upd (upd (upd (upd (upd (fun _ => 0) 0 0) 1 0) 2 0) 3 0) 4 0) 5 0) 6 0) 7 0)))] (fun w => w = [(h0, .inl (G.2.1 1, 4000, .inl (upd (upd (upd (upd (upd (upd (upd (upd (upd (fun _ => 0) 0 0) 1 0) 2 0) 3 0) 4 0) 5 0) 6 0) 7 0) 8 0)))]) := by
  refine zMv.intro (by decide) (Nat.le_of_ble_eq_true rfl) (fun X hC hR => ?_)
  refine z_iload_n hC (pc := 0) 1 dX12_setByte_0 rfl rfl ?_
  refine z_if_ltF hC (pc := 1) 15 dX12_setByte_1 (by decide) (by decide) ?_
  refine z_iload_n hC (pc := 4) 1 dX12_setByte_4 rfl rfl ?_
  refine z_aload_n hC (pc := 5) 0 dX12_setByte_5 rfl rfl ?_
  refine z_alen1 hC (pc := 6) (v := 4000) 0 dX12_setByte_6 rfl rfl ?_
  refine z_icmp_geF hC (pc := 7) 15 dX12_setByte_7 (by decide) (by decide) ?_
  refine z_aload_n hC (pc := 10) 0 dX12_setByte_10 rfl rfl ?_
  refine z_iload_n hC (pc := 11) 1 dX12_setByte_11 rfl rfl ?_
  refine z_iload_n hC (pc := 12) 2 dX12_setByte_12 rfl rfl ?_
  refine z_i2b hC (pc := 13) (v := 0) dX12_setByte_13 (by decide) ?_
  refine z_bast hC (pc := 14) (f' := (upd (upd (upd (upd (upd (upd (upd (upd (upd (fun _ => 0) 0 0) 1 0) 2 0) 3 0) 4 0) 5 0) 6 0) 7 0) 8 0)) 0 [(h0, .inl (G.2.1 1, 4000, .inl (upd (upd (upd (upd (upd (upd (upd (upd (upd (fun _ => 0) 0 0) 1 0) 2 0) 3 0) 4 0) 5 0) 6 0) 7 0) 8 0)))] dX12_setByte_14 rfl (zvi rfl) rfl rfl ?_
  exact hR _ _ _ _ _ dX12_setByte_15 (Nat.le_of_ble_eq_true rfl) (Nat.le_of_ble_eq_true rfl) rfl
set_option maxRecDepth 100000 in
theorem kX12_getByte_96 (l : Launch) (G : zG) (h0 : Nat) : zMi l G yX12_getByte cX12_getByte 2 .int 0 0 0 0 [.ref h0, .int 9] [(h0, .inl (G.2.1 1, 20, .inl (fun _ => 0)))] (fun r w => r = 0 ∧ w = [(h0, .inl (G.2.1 1, 20, .inl (fun _ => 0)))]) := by
  refine zMi.intro (by decide) (Nat.le_of_ble_eq_true rfl) (fun X hC hR => ?_)
  refine z_iload_n hC (pc := 0) 1 dX12_getByte_0 rfl rfl ?_
  refine z_if_ltF hC (pc := 1) 20 dX12_getByte_1 (by decide) (by decide) ?_
  refine z_iload_n hC (pc := 4) 1 dX12_getByte_4 rfl rfl ?_
  refine z_aload_n hC (pc := 5) 0 dX12_getByte_5 rfl rfl ?_
  refine z_alen1 hC (pc := 6) (v := 20) 0 dX12_getByte_6 rfl rfl ?_
  refine z_icmp_geF hC (pc := 7) 20 dX12_getByte_7 (by decide) (by decide) ?_
  refine z_aload_n hC (pc := 10) 0 dX12_getByte_10 rfl rfl ?_
  refine z_iload_n hC (pc := 11) 1 dX12_getByte_11 rfl rfl ?_
  refine z_bald hC (pc := 12) (v := 0) 0 dX12_getByte_12 rfl (zvi rfl) rfl ?_
  refine z_sipush hC (pc := 13) (v := 255) dX12_getByte_13 (by decide) ?_
  refine z_iand hC (pc := 16) (v := 0) dX12_getByte_16 (by decide) ?_
  refine z_goto hC (pc := 17) 21 dX12_getByte_17 (by decide) ?_
  exact hR _ _ _ _ _ _ dX12_getByte_21 rfl (Nat.le_of_ble_eq_true rfl) (Nat.le_of_ble_eq_true rfl) ⟨rfl, rfl⟩
set_option maxRecDepth 100000 in
theorem kX12_setByte_97 (l : Launch) (G : zG) (h0 : Nat) : zMv l G yX12_setByte cX12_setByte 3 0 0 0 0 [.ref h0, .int 9, .int 0] [(h0, .inl (G.2.1 1, 4000, .inl (upd (upd (upd (upd (upd (upd (upd (upd (upd (fun _ => 0) 0 0) 1 0) 2 0) 3 0) 4 0) 5 0) 6 0) 7 0) 8 0)))] (fun w => w = [(h0, .inl (G.2.1 1, 4000, .inl (upd (upd (upd (upd (upd (upd (upd (upd (upd (upd (fun _ => 0) 0 0) 1 0) 2 0) 3 0) 4 0) 5 0) 6 0) 7 0) 8 0) 9 0)))]) := by
  refine zMv.intro (by decide) (Nat.le_of_ble_eq_true rfl) (fun X hC hR => ?_)
  refine z_iload_n hC (pc := 0) 1 dX12_setByte_0 rfl rfl ?_
  refine z_if_ltF hC (pc := 1) 15 dX12_setByte_1 (by decide) (by decide) ?_
  refine z_iload_n hC (pc := 4) 1 dX12_setByte_4 rfl rfl ?_
  refine z_aload_n hC (pc := 5) 0 dX12_setByte_5 rfl rfl ?_
  refine z_alen1 hC (pc := 6) (v := 4000) 0 dX12_setByte_6 rfl rfl ?_
  refine z_icmp_geF hC (pc := 7) 15 dX12_setByte_7 (by decide) (by decide) ?_
  refine z_aload_n hC (pc := 10) 0 dX12_setByte_10 rfl rfl ?_
  refine z_iload_n hC (pc := 11) 1 dX12_setByte_11 rfl rfl ?_
  refine z_iload_n hC (pc := 12) 2 dX12_setByte_12 rfl rfl ?_
  refine z_i2b hC (pc := 13) (v := 0) dX12_setByte_13 (by decide) ?_
  refine z_bast hC (pc := 14) (f' := (upd (upd (upd (upd (upd (upd (upd (upd (upd (upd (fun _ => 0) 0 0) 1 0) 2 0) 3 0) 4 0) 5 0) 6 0) 7 0) 8 0) 9 0)) 0 [(h0, .inl (G.2.1 1, 4000, .inl (upd (upd (upd (upd (upd (upd (upd (upd (upd (upd (fun _ => 0) 0 0) 1 0) 2 0) 3 0) 4 0) 5 0) 6 0) 7 0) 8 0) 9 0)))] dX12_setByte_14 rfl (zvi rfl) rfl rfl ?_
  exact hR _ _ _ _ _ dX12_setByte_15 (Nat.le_of_ble_eq_true rfl) (Nat.le_of_ble_eq_true rfl) rfl
set_option maxRecDepth 100000 in
theorem kX12_getByte_98 (l : Launch) (G : zG) (h0 : Nat) : zMi l G yX12_getByte cX12_getByte 2 .int 0 0 0 0 [.ref h0, .int 10] [(h0, .inl (G.2.1 1, 20, .inl (fun _ => 0)))] (fun r w => r = 0 ∧ w = [(h0, .inl (G.2.1 1, 20, .inl (fun _ => 0)))]) := by
  refine zMi.intro (by decide) (Nat.le_of_ble_eq_true rfl) (fun X hC hR => ?_)
  refine z_iload_n hC (pc := 0) 1 dX12_getByte_0 rfl rfl ?_
  refine z_if_ltF hC (pc := 1) 20 dX12_getByte_1 (by decide) (by decide) ?_
  refine z_iload_n hC (pc := 4) 1 dX12_getByte_4 rfl rfl ?_
  refine z_aload_n hC (pc := 5) 0 dX12_getByte_5 rfl rfl ?_
  refine z_alen1 hC (pc := 6) (v := 20) 0 dX12_getByte_6 rfl rfl ?_
  refine z_icmp_geF hC (pc := 7) 20 dX12_getByte_7 (by decide) (by decide) ?_
  refine z_aload_n hC (pc := 10) 0 dX12_getByte_10 rfl rfl ?_
  refine z_iload_n hC (pc := 11) 1 dX12_getByte_11 rfl rfl ?_
  refine z_bald hC (pc := 12) (v := 0) 0 dX12_getByte_12 rfl (zvi rfl) rfl ?_
  refine z_sipush hC (pc := 13) (v := 255) dX12_getByte_13 (by decide) ?_
  refine z_iand hC (pc := 16) (v := 0) dX12_getByte_16 (by decide) ?_
  refine z_goto hC (pc := 17) 21 dX12_getByte_17 (by decide) ?_
  exact hR _ _ _ _ _ _ dX12_getByte_21 rfl (Nat.le_of_ble_eq_true rfl) (Nat.le_of_ble_eq_true rfl) ⟨rfl, rfl⟩
set_option maxRecDepth 100000 in
theorem kX12_setByte_99 (l : Launch) (G : zG) (h0 : Nat) : zMv l G yX12_setByte cX12_setByte 3 0 0 0 0 [.ref h0, .int 10, .int 0] [(h0, .inl (G.2.1 1, 4000, .inl (upd (upd (upd (upd (upd (upd (upd (upd (upd (upd (fun _ => 0) 0 0) 1 0) 2 0) 3 0) 4 0) 5 0) 6 0) 7 0) 8 0) 9 0)))] (fun w => w = [(h0, .inl (G.2.1 1, 4000, .inl (upd (upd (upd (upd (upd (upd (upd (upd (upd (upd (upd (fun _ => 0) 0 0) 1 0) 2 0) 3 0) 4 0) 5 0) 6 0) 7 0) 8 0) 9 0) 10 0)))]) := by
  refine zMv.intro (by decide) (Nat.le_of_ble_eq_true rfl) (fun X hC hR => ?_)
  refine z_iload_n hC (pc := 0) 1 dX12_setByte_0 rfl rfl ?_
  refine z_if_ltF hC (pc := 1) 15 dX12_setByte_1 (by decide) (by decide) ?_
  refine z_iload_n hC (pc := 4) 1 dX12_setByte_4 rfl rfl ?_
  refine z_aload_n hC (pc := 5) 0 dX12_setByte_5 rfl rfl ?_
  refine z_alen1 hC (pc := 6) (v := 4000) 0 dX12_setByte_6 rfl rfl ?_
  refine z_icmp_geF hC (pc := 7) 15 dX12_setByte_7 (by decide) (by decide) ?_
  refine z_aload_n hC (pc := 10) 0 dX12_setByte_10 rfl rfl ?_
  refine z_iload_n hC (pc := 11) 1 dX12_setByte_11 rfl rfl ?_
  refine z_iload_n hC (pc := 12) 2 dX12_setByte_12 rfl rfl ?_
  refine z_i2b hC (pc := 13) (v := 0) dX12_setByte_13 (by decide) ?_
  refine z_bast hC (pc := 14) (f' := (upd (upd (upd (upd (upd (upd (upd (upd (upd (upd (upd (fun _ => 0) 0 0) 1 0) 2 0) 3 0) 4 0) 5 0) 6 0) 7 0) 8 0) 9 0) 10 0)) 0 [(h0, .inl (G.2.1 1, 4000, .inl (upd (upd (upd (upd (upd (upd (upd (upd (upd (upd (upd (fun _ => 0) 0 0) 1 0) 2 0) 3 0) 4 0) 5 0) 6 0) 7 0) 8 0) 9 0) 10 0)))] dX12_setByte_14 rfl (zvi rfl) rfl rfl ?_
  exact hR _ _ _ _ _ dX12_setByte_15 (Nat.le_of_ble_eq_true rfl) (Nat.le_of_ble_eq_true rfl) rfl
set_option maxRecDepth 100000 in
theorem kX12_getByte_100 (l : Launch) (G : zG) (h0 : Nat) : zMi l G yX12_getByte cX12_getByte 2 .int 0 0 0 0 [.ref h0, .int 11] [(h0, .inl (G.2.1 1, 20, .inl (fun _ => 0)))] (fun r w => r = 0 ∧ w = [(h0, .inl (G.2.1 1, 20, .inl (fun _ => 0)))]) := by
  refine zMi.intro (by decide) (Nat.le_of_ble_eq_true rfl) (fun X hC hR => ?_)
  refine z_iload_n hC (pc := 0) 1 dX12_getByte_0 rfl rfl ?_
  refine z_if_ltF hC (pc := 1) 20 dX12_getByte_1 (by decide) (by decide) ?_
  refine z_iload_n hC (pc := 4) 1 dX12_getByte_4 rfl rfl ?_
  refine z_aload_n hC (pc := 5) 0 dX12_getByte_5 rfl rfl ?_
  refine z_alen1 hC (pc := 6) (v := 20) 0 dX12_getByte_6 rfl rfl ?_
  refine z_icmp_geF hC (pc := 7) 20 dX12_getByte_7 (by decide) (by decide) ?_
  refine z_aload_n hC (pc := 10) 0 dX12_getByte_10 rfl rfl ?_
  refine z_iload_n hC (pc := 11) 1 dX12_getByte_11 rfl rfl ?_
  refine z_bald hC (pc := 12) (v := 0) 0 dX12_getByte_12 rfl (zvi rfl) rfl ?_
  refine z_sipush hC (pc := 13) (v := 255) dX12_getByte_13 (by decide) ?_
  refine z_iand hC (pc := 16) (v := 0) dX12_getByte_16 (by decide) ?_
  refine z_goto hC (pc := 17) 21 dX12_getByte_17 (by decide) ?_
  exact hR _ _ _ _ _ _ dX12_getByte_21 rfl (Nat.le_of_ble_eq_true rfl) (Nat.le_of_ble_eq_true rfl) ⟨rfl, rfl⟩
set_option maxRecDepth 100000 in
theorem kX12_setByte_101 (l : Launch) (G : zG) (h0 : Nat) : zMv l G yX12_setByte cX12_setByte 3 0 0 0 0 [.ref h0, .int 11, .int 0] [(h0, .inl (G.2.1 1, 4000, .inl (upd (upd (upd (upd (upd (upd (upd (upd (upd (upd (upd (fun _ => 0) 0 0) 1 0) 2 0) 3 0) 4 0) 5 0) 6 0) 7 0) 8 0) 9 0) 10 0)))] (fun w => w = [(h0, .inl (G.2.1 1, 4000, .inl (upd (upd (upd (upd (upd (upd (upd (upd (upd (upd (upd (upd (fun _ => 0) 0 0) 1 0) 2 0) 3 0) 4 0) 5 0) 6 0) 7 0) 8 0) 9 0) 10 0) 11 0)))]) := by
  refine zMv.intro (by decide) (Nat.le_of_ble_eq_true rfl) (fun X hC hR => ?_)
  refine z_iload_n hC (pc := 0) 1 dX12_setByte_0 rfl rfl ?_
  refine z_if_ltF hC (pc := 1) 15 dX12_setByte_1 (by decide) (by decide) ?_
  refine z_iload_n hC (pc := 4) 1 dX12_setByte_4 rfl rfl ?_
  refine z_aload_n hC (pc := 5) 0 dX12_setByte_5 rfl rfl ?_
  refine z_alen1 hC (pc := 6) (v := 4000) 0 dX12_setByte_6 rfl rfl ?_
  refine z_icmp_geF hC (pc := 7) 15 dX12_setByte_7 (by decide) (by decide) ?_
  refine z_aload_n hC (pc := 10) 0 dX12_setByte_10 rfl rfl ?_
  refine z_iload_n hC (pc := 11) 1 dX12_setByte_11 rfl rfl ?_
  refine z_iload_n hC (pc := 12) 2 dX12_setByte_12 rfl rfl ?_
  refine z_i2b hC (pc := 13) (v := 0) dX12_setByte_13 (by decide) ?_
  refine z_bast hC (pc := 14) (f' := (upd (upd (upd (upd (upd (upd (upd (upd (upd (upd (upd (upd (fun _ => 0) 0 0) 1 0) 2 0) 3 0) 4 0) 5 0) 6 0) 7 0) 8 0) 9 0) 10 0) 11 0)) 0 [(h0, .inl (G.2.1 1, 4000, .inl (upd (upd (upd (upd (upd (upd (upd (upd (upd (upd (upd (upd (fun _ => 0) 0 0) 1 0) 2 0) 3 0) 4 0) 5 0) 6 0) 7 0) 8 0) 9 0) 10 0) 11 0)))] dX12_setByte_14 rfl (zvi rfl) rfl rfl ?_
  exact hR _ _ _ _ _ dX12_setByte_15 (Nat.le_of_ble_eq_true rfl) (Nat.le_of_ble_eq_true rfl) rfl
set_option maxRecDepth 100000 in
theorem kX12_getByte_102 (l : Launch) (G : zG) (h0 : Nat) : zMi l G yX12_getByte cX12_getByte 2 .int 0 0 0 0 [.ref h0, .int 12] [(h0, .inl (G.2.1 1, 20, .inl (fun _ => 0)))] (fun r w => r = 0 ∧ w = [(h0, .inl (G.2.1 1, 20, .inl (fun _ => 0)))]) := by
  refine zMi.intro (by decide) (Nat.le_of_ble_eq_true rfl) (fun X hC hR => ?_)
  refine z_iload_n hC (pc := 0) 1 dX12_getByte_0 rfl rfl ?_
  refine z_if_ltF hC (pc := 1) 20 dX12_getByte_1 (by decide) (by decide) ?_
  refine z_iload_n hC (pc := 4) 1 dX12_getByte_4 rfl rfl ?_
  refine z_aload_n hC (pc := 5) 0 dX12_getByte_5 rfl rfl ?_
  refine z_alen1 hC (pc := 6) (v := 20) 0 dX12_getByte_6 rfl rfl ?_
  refine z_icmp_geF hC (pc := 7) 20 dX12_getByte_7 (by decide) (by decide) ?_
  refine z_aload_n hC (pc := 10) 0 dX12_getByte_10 rfl rfl ?_
  refine z_iload_n hC (pc := 11) 1 dX12_getByte_11 rfl rfl ?_
  refine z_bald hC (pc := 12) (v := 0) 0 dX12_getByte_12 rfl (zvi rfl) rfl ?_
  refine z_sipush hC (pc := 13) (v := 255) dX12_getByte_13 (by decide) ?_
  refine z_iand hC (pc := 16) (v := 0) dX12_getByte_16 (by decide) ?_
  refine z_goto hC (pc := 17) 21 dX12_getByte_17 (by decide) ?_
  exact hR _ _ _ _ _ _ dX12_getByte_21 rfl (Nat.le_of_ble_eq_true rfl) (Nat.le_of_ble_eq_true rfl) ⟨rfl, rfl⟩
set_option maxRecDepth 100000 in
theorem kX12_setByte_103 (l : Launch) (G : zG) (h0 : Nat) : zMv l G yX12_setByte cX12_setByte 3 0 0 0 0 [.ref h0, .int 12, .int 0] [(h0, .inl (G.2.1 1, 4000, .inl (upd (upd (upd (upd (upd (upd (upd (upd (upd (upd (upd (upd (fun _ => 0) 0 0) 1 0) 2 0) 3 0) 4 0) 5 0) 6 0) 7 0) 8 0) 9 0) 10 0) 11 0)))] (fun w => w = [(h0, .inl (G.2.1 1, 4000, .inl (upd (upd (upd (upd (upd (upd (upd (upd (upd (upd (upd (upd (upd (fun _ => 0) 0 0) 1 0) 2 0) 3 0) 4 0) 5 0) 6 0) 7 0) 8 0) 9 0) 10 0) 11 0) 12 0)))]) := by
  refine zMv.intro (by decide) (Nat.le_of_ble_eq_true rfl) (fun X hC hR => ?_)
  refine z_iload_n hC (pc := 0) 1 dX12_setByte_0 rfl rfl ?_
  refine z_if_ltF hC (pc := 1) 15 dX12_setByte_1 (by decide) (by decide) ?_
  refine z_iload_n hC (pc := 4) 1 dX12_setByte_4 rfl rfl ?_
  refine z_aload_n hC (pc := 5) 0 dX12_setByte_5 rfl rfl ?_
  refine z_alen1 hC (pc := 6) (v := 4000) 0 dX12_setByte_6 rfl rfl ?_
  refine z_icmp_geF hC (pc := 7) 15 dX12_setByte_7 (by decide) (by decide) ?_
  refine z_aload_n hC (pc := 10) 0 dX12_setByte_10 rfl rfl ?_
  refine z_iload_n hC (pc := 11) 1 dX12_setByte_11 rfl rfl ?_
  refine z_iload_n hC (pc := 12) 2 dX12_setByte_12 rfl rfl ?_
  refine z_i2b hC (pc := 13) (v := 0) dX12_setByte_13 (by decide) ?_
  refine z_bast hC (pc := 14) (f' := (upd (upd (upd (upd (upd (upd (upd (upd (upd (upd (upd (upd (upd (fun _ => 0) 0 0) 1 0) 2 0) 3 0) 4 0) 5 0) 6 0) 7 0) 8 0) 9 0) 10 0) 11 0) 12 0)) 0 [(h0, .inl (G.2.1 1, 4000, .inl (upd (upd (upd (upd (upd (upd (upd (upd (upd (upd (upd (upd (upd (fun _ => 0) 0 0) 1 0) 2 0) 3 0) 4 0) 5 0) 6 0) 7 0) 8 0) 9 0) 10 0) 11 0) 12 0)))] dX12_setByte_14 rfl (zvi rfl) rfl rfl ?_
  exact hR _ _ _ _ _ dX12_setByte_15 (Nat.le_of_ble_eq_true rfl) (Nat.le_of_ble_eq_true rfl) rfl
set_option maxRecDepth 100000 in
theorem kX12_getByte_104 (l : Launch) (G : zG) (h0 : Nat) : zMi l G yX12_getByte cX12_getByte 2 .int 0 0 0 0 [.ref h0, .int 13] [(h0, .inl (G.2.1 1, 20, .inl (fun _ => 0)))] (fun r w => r = 0 ∧ w = [(h0, .inl (G.2.1 1, 20, .inl (fun _ => 0)))]) := by
  refine zMi.intro (by decide) (Nat.le_of_ble_eq_true rfl) (fun X hC hR => ?_)
  refine z_iload_n hC (pc := 0) 1 dX12_getByte_0 rfl rfl ?_
  refine z_if_ltF hC (pc := 1) 20 dX12_getByte_1 (by decide) (by decide) ?_
  refine z_iload_n hC (pc := 4) 1 dX12_getByte_4 rfl rfl ?_
  refine z_aload_n hC (pc := 5) 0 dX12_getByte_5 rfl rfl ?_
  refine z_alen1 hC (pc := 6) (v := 20) 0 dX12_getByte_6 rfl rfl ?_
  refine z_icmp_geF hC (pc := 7) 20 dX12_getByte_7 (by decide) (by decide) ?_
  refine z_aload_n hC (pc := 10) 0 dX12_getByte_10 rfl rfl ?_
  refine z_iload_n hC (pc := 11) 1 dX12_getByte_11 rfl rfl ?_
  refine z_bald hC (pc := 12) (v := 0) 0 dX12_getByte_12 rfl (zvi rfl) rfl ?_
  refine z_sipush hC (pc := 13) (v := 255) dX12_getByte_13 (by decide) ?_
  refine z_iand hC (pc := 16) (v := 0) dX12_getByte_16 (by decide) ?_
  refine z_goto hC (pc := 17) 21 dX12_getByte_17 (by decide) ?_
  exact hR _ _ _ _ _ _ dX12_getByte_21 rfl (Nat.le_of_ble_eq_true rfl) (Nat.le_of_ble_eq_true rfl) ⟨rfl, rfl⟩
set_option maxRecDepth 100000 in
theorem kX12_setByte_105 (l : Launch) (G : zG) (h0 : Nat) : zMv l G yX12_setByte cX12_setByte 3 0 0 0 0 [.ref h0, .int 13, .int 0] [(h0, .inl (G.2.1 1, 4000, .inl (upd (upd (upd (upd (upd (upd (upd (upd (upd (upd (upd (upd (upd (fun _ => 0) 0 0) 1 0) 2 0) 3 0) 4 0) 5 0) 6 0) 7 0) 8 0) 9 0) 10 0) 11 0) 12 0)))] (fun w => w = [(h0, .inl (G.2.1 1, 4000, .inl (upd (upd (upd (upd (upd (upd (upd (upd (upd (upd (upd (upd (upd (upd (fun _ => 0) 0 0) 1 0) 2 0) 3 0) 4 0) 5 0) 6 0) 7 0) 8 0) 9 0) 10 0) 11 0) 12 0) 13 0)))]) := by
  refine zMv.intro (by decide) (Nat.le_of_ble_eq_true rfl) (fun X hC hR => ?_)
  refine z_iload_n hC (pc := 0) 1 dX12_setByte_0 rfl rfl ?_
  refine z_if_ltF hC (pc := 1) 15 dX12_setByte_1 (by decide) (by decide) ?_
  refine z_iload_n hC (pc := 4) 1 dX12_setByte_4 rfl rfl ?_
  refine z_aload_n hC (pc := 5) 0 dX12_setByte_5 rfl rfl ?_
  refine z_alen1 hC (pc := 6) (v := 4000) 0 dX12_setByte_6 rfl rfl ?_
  refine z_icmp_geF hC (pc := 7) 15 dX12_setByte_7 (by decide) (by decide) ?_
  refine z_aload_n hC (pc := 10) 0 dX12_setByte_10 rfl rfl ?_
  refine z_iload_n hC (pc := 11) 1 dX12_setByte_11 rfl rfl ?_
  refine z_iload_n hC (pc := 12) 2 dX12_setByte_12 rfl rfl ?_
  refine z_i2b hC (pc := 13) (v := 0) dX12_setByte_13 (by decide) ?_
  refine z_bast hC (pc := 14) (f' := (upd (upd (upd (upd (upd (upd (upd (upd (upd (upd (upd (upd (upd (upd (fun _ => 0) 0 0) 1 0) 2 0) 3 0) 4 0) 5 0) 6 0) 7 0) 8 0) 9 0) 10 0) 11 0) 12 0) 13 0)) 0 [(h0, .inl (G.2.1 1, 4000, .inl (upd (upd (upd (upd (upd (upd (upd (upd (upd (upd (upd (upd (upd (upd (fun _ => 0) 0 0) 1 0) 2 0) 3 0) 4 0) 5 0) 6 0) 7 0) 8 0) 9 0) 10 0) 11 0) 12 0) 13 0)))] dX12_setByte_14 rfl (zvi rfl) rfl rfl ?_
  exact hR _ _ _ _ _ dX12_setByte_15 (Nat.le_of_ble_eq_true rfl) (Nat.le_of_ble_eq_true rfl) rfl
set_option maxRecDepth 100000 in
theorem kX12_getByte_106 (l : Launch) (G : zG) (h0 : Nat) : zMi l G yX12_getByte cX12_getByte 2 .int 0 0 0 0 [.ref h0, .int 14] [(h0, .inl (G.2.1 1, 20, .inl (fun _ => 0)))] (fun r w => r = 0 ∧ w = [(h0, .inl (G.2.1 1, 20, .inl (fun _ => 0)))]) := by
  refine zMi.intro (by decide) (Nat.le_of_ble_eq_true rfl) (fun X hC hR => ?_)
  refine z_iload_n hC (pc := 0) 1 dX12_getByte_0 rfl rfl ?_
  refine z_if_ltF hC (pc := 1) 20 dX12_getByte_1 (by decide) (by decide) ?_
  refine z_iload_n hC (pc := 4) 1 dX12_getByte_4 rfl rfl ?_
  refine z_aload_n hC (pc := 5) 0 dX12_getByte_5 rfl rfl ?_
  refine z_alen1 hC (pc := 6) (v := 20) 0 dX12_getByte_6 rfl rfl ?_
  refine z_icmp_geF hC (pc := 7) 20 dX12_getByte_7 (by decide) (by decide) ?_
  refine z_aload_n hC (pc := 10) 0 dX12_getByte_10 rfl rfl ?_
  refine z_iload_n hC (pc := 11) 1 dX12_getByte_11 rfl rfl ?_
  refine z_bald hC (pc := 12) (v := 0) 0 dX12_getByte_12 rfl (zvi rfl) rfl ?_
  refine z_sipush hC (pc := 13) (v := 255) dX12_getByte_13 (by decide) ?_
  refine z_iand hC (pc := 16) (v := 0) dX12_getByte_16 (by decide) ?_
  refine z_goto hC (pc := 17) 21 dX12_getByte_17 (by decide) ?_
  exact hR _ _ _ _ _ _ dX12_getByte_21 rfl (Nat.le_of_ble_eq_true rfl) (Nat.le_of_ble_eq_true rfl) ⟨rfl, rfl⟩
set_option maxRecDepth 100000 in
theorem kX12_setByte_107 (l : Launch) (G : zG) (h0 : Nat) : zMv l G yX12_setByte cX12_setByte 3 0 0 0 0 [.ref h0, .int 14, .int 0] [(h0, .inl (G.2.1 1, 4000, .inl (upd (upd (upd (upd (upd (upd (upd (upd (upd (upd (upd (upd (upd (upd (fun _ => 0) 0 0) 1 0) 2 0) 3 0) 4 0) 5 0) 6 0) 7 0) 8 0) 9 0) 10 0) 11 0) 12 0) 13 0)))] (fun w => w = [(h0, .inl (G.2.1 1, 4000, .inl (upd (upd (upd (upd (upd (upd (upd (upd (upd (upd (upd (upd (upd (upd (upd (fun _ => 0) 0 0) 1 0) 2 0) 3 0) 4 0) 5 0) 6 0) 7 0) 8 0) 9 0) 10 0) 11 0) 12 0) 13 0) 14 0)))]) := by
  refine zMv.intro (by decide) (Nat.le_of_ble_eq_true rfl) (fun X hC hR => ?_)
  refine z_iload_n hC (pc := 0) 1 dX12_setByte_0 rfl rfl ?_
  refine z_if_ltF hC (pc := 1) 15 dX12_setByte_1 (by decide) (by decide) ?_
  refine z_iload_n hC (pc := 4) 1 dX12_setByte_4 rfl rfl ?_
  refine z_aload_n hC (pc := 5) 0 dX12_setByte_5 rfl rfl ?_
  refine z_alen1 hC (pc := 6) (v := 4000) 0 dX12_setByte_6 rfl rfl ?_
  refine z_icmp_geF hC (pc := 7) 15 dX12_setByte_7 (by decide) (by decide) ?_
  refine z_aload_n hC (pc := 10) 0 dX12_setByte_10 rfl rfl ?_
  refine z_iload_n hC (pc := 11) 1 dX12_setByte_11 rfl rfl ?_
  refine z_iload_n hC (pc := 12) 2 dX12_setByte_12 rfl rfl ?_
  refine z_i2b hC (pc := 13) (v := 0) dX12_setByte_13 (by decide) ?_
  refine z_bast hC (pc := 14) (f' := (upd (upd (upd (upd (upd (upd (upd (upd (upd (upd (upd (upd (upd (upd (upd (fun _ => 0) 0 0) 1 0) 2 0) 3 0) 4 0) 5 0) 6 0) 7 0) 8 0) 9 0) 10 0) 11 0) 12 0) 13 0) 14 0)) 0 [(h0, .inl (G.2.1 1, 4000, .inl (upd (upd (upd (upd (upd (upd (upd (upd (upd (upd (upd (upd (upd (upd (upd (fun _ => 0) 0 0) 1 0) 2 0) 3 0) 4 0) 5 0) 6 0) 7 0) 8 0) 9 0) 10 0) 11 0) 12 0) 13 0) 14 0)))] dX12_setByte_14 rfl (zvi rfl) rfl rfl ?_
  exact hR _ _ _ _ _ dX12_setByte_15 (Nat.le_of_ble_eq_true rfl) (Nat.le_of_ble_eq_true rfl) rfl
set_option maxRecDepth 100000 in
theorem kX12_getByte_108 (l : Launch) (G : zG) (h0 : Nat) : zMi l G yX12_getByte cX12_getByte 2 .int 0 0 0 0 [.ref h0, .int 15] [(h0, .inl (G.2.1 1, 20, .inl (fun _ => 0)))] (fun r w => r = 0 ∧ w = [(h0, .inl (G.2.1 1, 20, .inl (fun _ => 0)))]) := by
  refine zMi.intro (by decide) (Nat.le_of_ble_eq_true rfl) (fun X hC hR => ?_)
  refine z_iload_n hC (pc := 0) 1 dX12_getByte_0 rfl rfl ?_
  refine z_if_ltF hC (pc := 1) 20 dX12_getByte_1 (by decide) (by decide) ?_
  refine z_iload_n hC (pc := 4) 1 dX12_getByte_4 rfl rfl ?_
  refine z_aload_n hC (pc := 5) 0 dX12_getByte_5 rfl rfl ?_
  refine z_alen1 hC (pc := 6) (v := 20) 0 dX12_getByte_6 rfl rfl ?_
  refine z_icmp_geF hC (pc := 7) 20 dX12_getByte_7 (by decide) (by decide) ?_
  refine z_aload_n hC (pc := 10) 0 dX12_getByte_10 rfl rfl ?_
  refine z_iload_n hC (pc := 11) 1 dX12_getByte_11 rfl rfl ?_
  refine z_bald hC (pc := 12) (v := 0) 0 dX12_getByte_12 rfl (zvi rfl) rfl ?_
  refine z_sipush hC (pc := 13) (v := 255) dX12_getByte_13 (by decide) ?_
  refine z_iand hC (pc := 16) (v := 0) dX12_getByte_16 (by decide) ?_
  refine z_goto hC (pc := 17) 21 dX12_getByte_17 (by decide) ?_
  exact hR _ _ _ _ _ _ dX12_getByte_21 rfl (Nat.le_of_ble_eq_true rfl) (Nat.le_of_ble_eq_true rfl) ⟨rfl, rfl⟩
set_option maxRecDepth 100000 in
theorem kX12_setByte_109 (l : Launch) (G : zG) (h0 : Nat) : zMv l G yX12_setByte cX12_setByte 3 0 0 0 0 [.ref h0, .int 15, .int 0] [(h0, .inl (G.2.1 1, 4000, .inl (upd (upd (upd (upd (upd (upd (upd (upd (upd (upd (upd (upd (upd (upd (upd (fun _ => 0) 0 0) 1 0) 2 0) 3 0) 4 0) 5 0) 6 0) 7 0) 8 0) 9 0) 10 0) 11 0) 12 0) 13 0) 14 0)))] (fun w => w = [(h0, .inl (G.2.1 1, 4000, .inl (upd (upd (upd (upd (upd (upd (upd (upd (upd (upd (upd (upd (upd (upd (upd (upd (fun _ => 0) 0 0) 1 0) 2 0) 3 0) 4 0) 5 0) 6 0) 7 0) 8 0) 9 0) 10 0) 11 0) 12 0) 13 0) 14 0) 15 0)))]) := by
  refine zMv.intro (by decide) (Nat.le_of_ble_eq_true rfl) (fun X hC hR => ?_)
  refine z_iload_n hC (pc := 0) 1 dX12_setByte_0 rfl rfl ?_
  refine z_if_ltF hC (pc := 1) 15 dX12_setByte_1 (by decide) (by decide) ?_
  refine z_iload_n hC (pc := 4) 1 dX12_setByte_4 rfl rfl ?_
  refine z_aload_n hC (pc := 5) 0 dX12_setByte_5 rfl rfl ?_
  refine z_alen1 hC (pc := 6) (v := 4000) 0 dX12_setByte_6 rfl rfl ?_
  refine z_icmp_geF hC (pc := 7) 15 dX12_setByte_7 (by decide) (by decide) ?_
  refine z_aload_n hC (pc := 10) 0 dX12_setByte_10 rfl rfl ?_
  refine z_iload_n hC (pc := 11) 1 dX12_setByte_11 rfl rfl ?_
  refine z_iload_n hC (pc := 12) 2 dX12_setByte_12 rfl rfl ?_
  refine z_i2b hC (pc := 13) (v := 0) dX12_setByte_13 (by decide) ?_
  refine z_bast hC (pc := 14) (f' := (upd (upd (upd (upd (upd (upd (upd (upd (upd (upd (upd (upd (upd (upd (upd (upd (fun _ => 0) 0 0) 1 0) 2 0) 3 0) 4 0) 5 0) 6 0) 7 0) 8 0) 9 0) 10 0) 11 0) 12 0) 13 0) 14 0) 15 0)) 0 [(h0, .inl (G.2.1 1, 4000, .inl (upd (upd (upd (upd (upd (upd (upd (upd (upd (upd (upd (upd (upd (upd (upd (upd (fun _ => 0) 0 0) 1 0) 2 0) 3 0) 4 0) 5 0) 6 0) 7 0) 8 0) 9 0) 10 0) 11 0) 12 0) 13 0) 14 0) 15 0)))] dX12_setByte_14 rfl (zvi rfl) rfl rfl ?_
  exact hR _ _ _ _ _ dX12_setByte_15 (Nat.le_of_ble_eq_true rfl) (Nat.le_of_ble_eq_true rfl) rfl
set_option maxRecDepth 100000 in
theorem kX12_getByte_110 (l : Launch) (G : zG) (h0 : Nat) : zMi l G yX12_getByte cX12_getByte 2 .int 0 0 0 0 [.ref h0, .int 16] [(h0, .inl (G.2.1 1, 20, .inl (fun _ => 0)))] (fun r w => r = 0 ∧ w = [(h0, .inl (G.2.1 1, 20, .inl (fun _ => 0)))]) := by
  refine zMi.intro (by decide) (Nat.le_of_ble_eq_true rfl) (fun X hC hR => ?_)
  refine z_iload_n hC (pc := 0) 1 dX12_getByte_0 rfl rfl ?_
  refine z_if_ltF hC (pc := 1) 20 dX12_getByte_1 (by decide) (by decide) ?_
  refine z_iload_n hC (pc := 4) 1 dX12_getByte_4 rfl rfl ?_
  refine z_aload_n hC (pc := 5) 0 dX12_getByte_5 rfl rfl ?_
  refine z_alen1 hC (pc := 6) (v := 20) 0 dX12_getByte_6 rfl rfl ?_
  refine z_icmp_geF hC (pc := 7) 20 dX12_getByte_7 (by decide) (by decide) ?_
  refine z_aload_n hC (pc := 10) 0 dX12_getByte_10 rfl rfl ?_
  refine z_iload_n hC (pc := 11) 1 dX12_getByte_11 rfl rfl ?_
  refine z_bald hC (pc := 12) (v := 0) 0 dX12_getByte_12 rfl (zvi rfl) rfl ?_
  refine z_sipush hC (pc := 13) (v := 255) dX12_getByte_13 (by decide) ?_
  refine z_iand hC (pc := 16) (v := 0) dX12_getByte_16 (by decide) ?_
  refine z_goto hC (pc := 17) 21 dX12_getByte_17 (by decide) ?_
  exact hR _ _ _ _ _ _ dX12_getByte_21 rfl (Nat.le_of_ble_eq_true rfl) (Nat.le_of_ble_eq_true rfl) ⟨rfl, rfl⟩
set_option maxRecDepth 100000 in
theorem kX12_setByte_111 (l : Launch) (G : zG) (h0 : Nat) : zMv l G yX12_setByte cX12_setByte 3 0 0 0 0 [.ref h0, .int 16, .int 0] [(h0, .inl (G.2.1 1, 4000, .inl (upd (upd (upd (upd (upd (upd (upd (upd (upd (upd (upd (upd (upd (upd (upd (upd (fun _ => 0) 0 0) 1 0) 2 0) 3 0) 4 0) 5 0) 6 0) 7 0) 8 0) 9 0) 10 0) 11 0) 12 0) 13 0) 14 0) 15 0)))] (fun w => w = [(h0, .inl (G.2.1 1, 4000, .inl (upd (upd (upd (upd (upd (upd (upd (upd (upd (upd (upd (upd (upd (upd (upd (upd (upd (fun _ => 0) 0 0) 1 0) 2 0) 3 0) 4 0) 5 0) 6 0) 7 0) 8 0) 9 0) 10 0) 11 0) 12 0) 13 0) 14 0) 15 0) 16 0)))]) := by
  refine zMv.intro (by decide) (Nat.le_of_ble_eq_true rfl) (fun X hC hR => ?_)
  refine z_iload_n hC (pc := 0) 1 dX12_setByte_0 rfl rfl ?_
  refine z_if_ltF hC (pc := 1) 15 dX12_setByte_1 (by decide) (by decide) ?_
  refine z_iload_n hC (pc := 4) 1 dX12_setByte_4 rfl rfl ?_
  refine z_aload_n hC (pc := 5) 0 dX12_setByte_5 rfl rfl ?_
  refine z_alen1 hC (pc := 6) (v := 4000) 0 dX12_setByte_6 rfl rfl ?_
  refine z_icmp_geF hC (pc := 7) 15 dX12_setByte_7 (by decide) (by decide) ?_
  refine z_aload_n hC (pc := 10) 0 dX12_setByte_10 rfl rfl ?_
  refine z_iload_n hC (pc := 11) 1 dX12_setByte_11 rfl rfl ?_
  refine z_iload_n hC (pc := 12) 2 dX12_setByte_12 rfl rfl ?_
  refine z_i2b hC (pc := 13) (v := 0) dX12_setByte_13 (by decide) ?_
  refine z_bast hC (pc := 14) (f' := (upd (upd (upd (upd (upd (upd (upd (upd (upd (upd (upd (upd (upd (upd (upd (upd (upd (fun _ => 0) 0 0) 1 0) 2 0) 3 0) 4 0) 5 0) 6 0) 7 0) 8 0) 9 0) 10 0) 11 0) 12 0) 13 0) 14 0) 15 0) 16 0)) 0 [(h0, .inl (G.2.1 1, 4000, .inl (upd (upd (upd (upd (upd (upd (upd (upd (upd (upd (upd (upd (upd (upd (upd (upd (upd (fun _ => 0) 0 0) 1 0) 2 0) 3 0) 4 0) 5 0) 6 0) 7 0) 8 0) 9 0) 10 0) 11 0) 12 0) 13 0) 14 0) 15 0) 16 0)))] dX12_setByte_14 rfl (zvi rfl) rfl rfl ?_
  exact hR _ _ _ _ _ dX12_setByte_15 (Nat.le_of_ble_eq_true rfl) (Nat.le_of_ble_eq_true rfl) rfl
set_option maxRecDepth 100000 in
theorem kX12_getByte_112 (l : Launch) (G : zG) (h0 : Nat) : zMi l G yX12_getByte cX12_getByte 2 .int 0 0 0 0 [.ref h0, .int 17] [(h0, .inl (G.2.1 1, 20, .inl (fun _ => 0)))] (fun r w => r = 0 ∧ w = [(h0, .inl (G.2.1 1, 20, .inl (fun _ => 0)))]) := by
  refine zMi.intro (by decide) (Nat.le_of_ble_eq_true rfl) (fun X hC hR => ?_)
  refine z_iload_n hC (pc := 0) 1 dX12_getByte_0 rfl rfl ?_
  refine z_if_ltF hC (pc := 1) 20 dX12_getByte_1 (by decide) (by decide) ?_
  refine z_iload_n hC (pc := 4) 1 dX12_getByte_4 rfl rfl ?_
  refine z_aload_n hC (pc := 5) 0 dX12_getByte_5 rfl rfl ?_
  refine z_alen1 hC (pc := 6) (v := 20) 0 dX12_getByte_6 rfl rfl ?_
  refine z_icmp_geF hC (pc := 7) 20 dX12_getByte_7 (by decide) (by decide) ?_
  refine z_aload_n hC (pc := 10) 0 dX12_getByte_10 rfl rfl ?_
  refine z_iload_n hC (pc := 11) 1 dX12_getByte_11 rfl rfl ?_
  refine z_bald hC (pc := 12) (v := 0) 0 dX12_getByte_12 rfl (zvi rfl) rfl ?_
  refine z_sipush hC (pc := 13) (v := 255) dX12_getByte_13 (by decide) ?_
  refine z_iand hC (pc := 16) (v := 0) dX12_getByte_16 (by decide) ?_
  refine z_goto hC (pc := 17) 21 dX12_getByte_17 (by decide) ?_
  exact hR _ _ _ _ _ _ dX12_getByte_21 rfl (Nat.le_of_ble_eq_true rfl) (Nat.le_of_ble_eq_true rfl) ⟨rfl, rfl⟩
set_option maxRecDepth 100000 in
theorem kX12_setByte_113 (l : Launch) (G : zG) (h0 : Nat) : zMv l G yX12_setByte cX12_setByte 3 0 0 0 0 [.ref h0, .int 17, .int 0] [(h0, .inl (G.2.1 1, 4000, .inl (upd (upd (upd (upd (upd (upd (upd (upd (upd (upd (upd (upd (upd (upd (upd (upd (upd (fun _ => 0) 0 0) 1 0) 2 0) 3 0) 4 0) 5 0) 6 0) 7 0) 8 0) 9 0) 10 0) 11 0) 12 0) 13 0) 14 0) 15 0) 16 0)))] (fun w => w = [(h0, .inl (G.2.1 1, 4000, .inl (upd (upd (upd (upd (upd (upd (upd (upd (upd (upd (upd (upd (upd (upd (upd (upd (upd (upd (fun _ => 0) 0 0) 1 0) 2 0) 3 0) 4 0) 5 0) 6 0) 7 0) 8 0) 9 0) 10 0) 11 0) 12 0) 13 0) 14 0) 15 0) 16 0) 17 0)))]) := by
  refine zMv.intro (by decide) (Nat.le_of_ble_eq_true rfl) (fun X hC hR => ?_)
  refine z_iload_n hC (pc := 0) 1 dX12_setByte_0 rfl rfl ?_
  refine z_if_ltF hC (pc := 1) 15 dX12_setByte_1 (by decide) (by decide) ?_
  refine z_iload_n hC (pc := 4) 1 dX12_setByte_4 rfl rfl ?_
  refine z_aload_n hC (pc := 5) 0 dX12_setByte_5 rfl rfl ?_
  refine z_alen1 hC (pc := 6) (v := 4000) 0 dX12_setByte_6 rfl rfl ?_
  refine z_icmp_geF hC (pc := 7) 15 dX12_setByte_7 (by decide) (by decide) ?_
  refine z_aload_n hC (pc := 10) 0 dX12_setByte_10 rfl rfl ?_
  refine z_iload_n hC (pc := 11) 1 dX12_setByte_11 rfl rfl ?_
  refine z_iload_n hC (pc := 12) 2 dX12_setByte_12 rfl rfl ?_
  refine z_i2b hC (pc := 13) (v := 0) dX12_setByte_13 (by decide) ?_
  refine z_bast hC (pc := 14) (f' := (upd (upd (upd (upd (upd (upd (upd (upd (upd (upd (upd (upd (upd (upd (upd (upd (upd (upd (fun _ => 0) 0 0) 1 0) 2 0) 3 0) 4 0) 5 0) 6 0) 7 0) 8 0) 9 0) 10 0) 11 0) 12 0) 13 0) 14 0) 15 0) 16 0) 17 0)) 0 [(h0, .inl (G.2.1 1, 4000, .inl (upd (upd (upd (upd (upd (upd (upd (upd (upd (upd (upd (upd (upd (upd (upd (upd (upd (upd (fun _ => 0) 0 0) 1 0) 2 0) 3 0) 4 0) 5 0) 6 0) 7 0) 8 0) 9 0) 10 0) 11 0) 12 0) 13 0) 14 0) 15 0) 16 0) 17 0)))] dX12_setByte_14 rfl (zvi rfl) rfl rfl ?_
  exact hR _ _ _ _ _ dX12_setByte_15 (Nat.le_of_ble_eq_true rfl) (Nat.le_of_ble_eq_true rfl) rfl
